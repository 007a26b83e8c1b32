/-- L_card -/
def q_L_card (ad : Nat → Nat → Nat) (nS nB nC nO : Nat) (σ : x_St) (a b d f : Int32) : Int32 → ((Nat → Nat → Nat) × Nat × x_St) → Prop := fun k u => (k = 0 ∧ ∃ (r : Int32) (v : ((Nat → Nat → Nat) × Nat × x_St)), q_X6_card ad (x_n nS nB nC nO) σ a b d f nB nC r v ∧ u = (v.1, v.2.1, x_up v.2.2 8 0 0 r)) ∨ (k = 1 ∧ (fun E => E = x_iae ∧ ¬ ((1 ≤ a ∧ a ≤ 3) ∧ (b = 2 ∨ b = 4) ∧ (0 ≤ d ∧ d ≤ 9) ∧ 0 ≤ f ∧ f ≤ 8)) x_iae ∧ u = (ad, nC, σ))
set_option maxHeartbeats 4000000 in
set_option maxRecDepth 100000 in
theorem c_L_card {l : Launch} {D : va_G} {cs : Nat → ClassId} {base : Nat} {ad : Nat → Nat → Nat} {nS nB nC nO : Nat} {σ : x_St} (hl0 : l.stackTraces = false) (a b d f : Int32) (hB : σ 6 0 3 = nI nB) (hB0 : nB ≤ 400) (hC : σ 6 0 6 = nI nC) (hC0 : nC ≤ 30) : x_Wi l yL_card cL_card 7 (some .int) [(0, 14, 17, 19)] 84 2 19 D cs base ad (x_n nS nB nC nO) (x_s nS nB nC nO nS nC) σ [.ref (ad 6 0), .int a, .int b, .int d, .int f, .ref (ad 8 0)] (q_L_card ad nS nB nC nO σ a b d f) (fun u => x_U D cs base u.1 (x_n nS nB u.2.1 nO) (x_s nS nB u.2.1 nO nS u.2.1) u.2.2) := by
  refine va_MetW (cc := cL_card) (maxL := 7) (ret := some .int) (hh := [(0, 14, 17, 19)]) (by decide) rfl ?_
  intro p e s m args below meth c s₁ B hml hv
  obtain ⟨rfl, hU⟩ := hv
  have hx := B.exec
  have hb := B.bytes
  have hr := B.returns
  have hts := atoms_spec (ws := Cond.codeWith yL_card cL_card 7 (some .int) [(0, 14, 17, 19)] :: Tw) B.pre
  have htab := vx_table (x := yL_card) B (hts _ List.mem_cons_self)
  have hown : s.vm.findClass RL = some m.cls := findClass_of_methodNamed B.named
  have hlocks := B.notSynchronized
  have hc : CallFix p m c cL_card 7 s (([.ref (ad 6 0), .int a, .int b, .int d, .int f, .ref (ad 8 0)] : List Value).toArray) Tw RL := ⟨hx, hb, hml, hown, fun w hw => hts w (List.mem_cons_of_mem _ hw)⟩
  have hw := x_B.start hU
  have hl := lv_entry ([.ref (ad 6 0), .int a, .int b, .int d, .int f, .ref (ad 8 0)]) (n := 7) (Nat.le_of_ble_eq_true rfl)
  rw [lg_entry_eq]
  generalize (lg_sl ([.ref (ad 6 0), .int a, .int b, .int d, .int f, .ref (ad 8 0)]) ++ List.replicate (7 - (lg_sl ([.ref (ad 6 0), .int a, .int b, .int d, .int f, .ref (ad 8 0)])).length) Slot.unset).toArray = ls at hl ⊢
  have hl : lv_has ls 7 [(0, .ref (ad 6 0)), (1, .int a), (2, .int b), (3, .int d), (4, .int f), (5, .ref (ad 8 0))] := hl
  generalize ([.ref (ad 6 0), .int a, .int b, .int d, .int f, .ref (ad 8 0)] : List Value).toArray = args at hc ⊢
  show W p l e (x_rm 84 2 19) s m args below meth c s.heap [] 0 0 (MQ below (va_Qi (q_L_card ad nS nB nC nO σ a b d f) (fun u => x_U D cs base u.1 (x_n nS nB u.2.1 nO) (x_s nS nB u.2.1 nO nS u.2.1) u.2.2) (x_A base)) args s 2 19 (x_A base)) (F0 m 0 ls [])
  refine lv_aload hx hb dL_card_0 (lv_at hl 5 rfl) ?_
  refine lv_iconst (v := 0) hx hb dL_card_2 (by decide) ?_
  refine lv_aload_n hx hb dL_card_3 rfl (lv_at hl 0 rfl) ?_
  refine lv_iload_n hx hb dL_card_4 rfl (lv_at hl 1 rfl) ?_
  refine lv_iload_n hx hb dL_card_5 rfl (lv_at hl 2 rfl) ?_
  refine lv_iload_n hx hb dL_card_6 rfl (lv_at hl 3 rfl) ?_
  refine lv_iload hx hb dL_card_7 (lv_at hl 4 rfl) ?_
  refine xc_Xi hc hw 6 0 (c_X6_card hl0 a b d f hB hB0 hC hC0) rfl rfl (Nat.zero_lt_one) mw_552 mw_549 mw_1 mw_550 mw_551 xd_X6_card ⟨by decide, by decide⟩ (rfl) hl.1 (Nat.le_of_ble_eq_true rfl) dL_card_9 ⟨Nat.le_of_ble_eq_true rfl, Nat.le_of_ble_eq_true rfl⟩ (fun E ce q9 H locs hp hw hq1 hq2 hq3 => ?_) (fun r_9 σ_9 H locs hq hw => ?_)
  · obtain ⟨rfl, hpx⟩ := hp
    refine xh_1 hc hw htab rfl (by decide)  mw_314 (by decide +kernel) hq1 hq2 hq3 ?_
    refine lv_astore (lv' := [(6, .ref q9), (0, .ref (ad 6 0)), (1, .int a), (2, .int b), (3, .int d), (4, .int f), (5, .ref (ad 8 0))]) hx hb dL_card_17 hl (by decide) rfl (fun ls hl => ?_)
    refine lv_iconst (v := 1) hx hb dL_card_19 (by decide) ?_
    exact xr_i (u := (ad, nC, σ)) hc hlocks hr rfl hw (Or.inr ⟨rfl, ⟨rfl, hpx⟩, rfl⟩) (Nat.le_of_ble_eq_true rfl) (Nat.le_of_ble_eq_true rfl) dL_card_20
  obtain ⟨ad_9, m_9, σ_9⟩ := σ_9
  have hq_9 := hq
  have hag_9 : ∀ a b, b < (x_n nS nB nC nO) a → ad_9 a b = ad a b := hq.1
  replace hw : x_B D cs base ad_9 (x_n nS nB m_9 nO) (x_s nS nB m_9 nO nS m_9) σ_9 s H locs := hw
  have hl : lv_has ls 7 [(0, .ref (ad_9 6 0)), (1, .int a), (2, .int b), (3, .int d), (4, .int f), (5, .ref (ad_9 8 0))] := by rw [hag_9 6 0 (Nat.zero_lt_one), hag_9 8 0 (Nat.zero_lt_one)]; exact hl
  rw [← hag_9 8 0 (Nat.zero_lt_one)]
  refine lv_i2l hx hb dL_card_12 rfl ?_
  refine xl_st (j := 0) hc hw (Nat.zero_lt_one) rfl (by decide) dL_card_13 (fun H locs hw => ?_)
  refine lv_goto (tgt := 21) hx hb dL_card_14 (by decide) ?_
  refine lv_iconst (v := 0) hx hb dL_card_21 (by decide) ?_
  exact xr_i (u := (ad_9, m_9, x_up σ_9 8 0 0 r_9)) hc hlocks hr rfl hw (Or.inl ⟨rfl, r_9, (ad_9, m_9, σ_9), hq_9, rfl⟩) (Nat.le_of_ble_eq_true rfl) (Nat.le_of_ble_eq_true rfl) dL_card_22
/-- L_cut -/
def q_L_cut (ad : Nat → Nat → Nat) (nS nB nC nO : Nat) (σ : x_St) (a : Int32) : Int32 → ((Nat → Nat → Nat) × Nat × x_St) → Prop := fun k u => (k = 0 ∧ ∃ (r : Int32) (v : ((Nat → Nat → Nat) × Nat × x_St)), q_X6_cut ad (x_n nS nB nC nO) σ a nB r v ∧ u = (v.1, v.2.1, x_up v.2.2 8 0 0 r)) ∨ (k = 1 ∧ (fun E => E = x_nse ∧ ¬ (0 ≤ a ∧ a < σ 6 0 1)) x_nse ∧ u = (ad, nB, σ))
set_option maxHeartbeats 4000000 in
set_option maxRecDepth 100000 in
theorem c_L_cut {l : Launch} {D : va_G} {cs : Nat → ClassId} {base : Nat} {ad : Nat → Nat → Nat} {nS nB nC nO : Nat} {σ : x_St} (hl0 : l.stackTraces = false) (a : Int32) (hS : σ 6 0 1 = nI nS) (hS0 : nS ≤ 30) (hB : σ 6 0 3 = nI nB) (hB0 : nB ≤ 400) (hok : ∀ i, i < nS → f_sk σ i) (hwk : f_wl σ) : x_Wi l yL_cut cL_cut 4 (some .int) [(0, 9, 12, 13)] 84 37 330 D cs base ad (x_n nS nB nC nO) (x_s nS nB nC nO nS nC) σ [.ref (ad 6 0), .int a, .ref (ad 8 0)] (q_L_cut ad nS nB nC nO σ a) (fun u => x_U D cs base u.1 (x_n nS u.2.1 nC nO) (x_s nS u.2.1 nC nO nS nC) u.2.2) := by
  refine va_MetW (cc := cL_cut) (maxL := 4) (ret := some .int) (hh := [(0, 9, 12, 13)]) (by decide) rfl ?_
  intro p e s m args below meth c s₁ B hml hv
  obtain ⟨rfl, hU⟩ := hv
  have hx := B.exec
  have hb := B.bytes
  have hr := B.returns
  have hts := atoms_spec (ws := Cond.codeWith yL_cut cL_cut 4 (some .int) [(0, 9, 12, 13)] :: Tw) B.pre
  have htab := vx_table (x := yL_cut) B (hts _ List.mem_cons_self)
  have hown : s.vm.findClass RL = some m.cls := findClass_of_methodNamed B.named
  have hlocks := B.notSynchronized
  have hc : CallFix p m c cL_cut 4 s (([.ref (ad 6 0), .int a, .ref (ad 8 0)] : List Value).toArray) Tw RL := ⟨hx, hb, hml, hown, fun w hw => hts w (List.mem_cons_of_mem _ hw)⟩
  have hw := x_B.start hU
  have hl := lv_entry ([.ref (ad 6 0), .int a, .ref (ad 8 0)]) (n := 4) (Nat.le_of_ble_eq_true rfl)
  rw [lg_entry_eq]
  generalize (lg_sl ([.ref (ad 6 0), .int a, .ref (ad 8 0)]) ++ List.replicate (4 - (lg_sl ([.ref (ad 6 0), .int a, .ref (ad 8 0)])).length) Slot.unset).toArray = ls at hl ⊢
  have hl : lv_has ls 4 [(0, .ref (ad 6 0)), (1, .int a), (2, .ref (ad 8 0))] := hl
  generalize ([.ref (ad 6 0), .int a, .ref (ad 8 0)] : List Value).toArray = args at hc ⊢
  show W p l e (x_rm 84 37 330) s m args below meth c s.heap [] 0 0 (MQ below (va_Qi (q_L_cut ad nS nB nC nO σ a) (fun u => x_U D cs base u.1 (x_n nS u.2.1 nC nO) (x_s nS u.2.1 nC nO nS nC) u.2.2) (x_A base)) args s 37 330 (x_A base)) (F0 m 0 ls [])
  refine lv_aload_n hx hb dL_cut_0 rfl (lv_at hl 2 rfl) ?_
  refine lv_iconst (v := 0) hx hb dL_cut_1 (by decide) ?_
  refine lv_aload_n hx hb dL_cut_2 rfl (lv_at hl 0 rfl) ?_
  refine lv_iload_n hx hb dL_cut_3 rfl (lv_at hl 1 rfl) ?_
  refine xc_Xi hc hw 6 0 (c_X6_cut hl0 a hS hS0 hB hB0 hok hwk) rfl rfl (Nat.zero_lt_one) mw_413 mw_410 mw_1 mw_411 mw_412 xd_X6_cut ⟨by decide, by decide⟩ (rfl) hl.1 (Nat.le_of_ble_eq_true rfl) dL_cut_4 ⟨Nat.le_of_ble_eq_true rfl, Nat.le_of_ble_eq_true rfl⟩ (fun E ce q9 H locs hp hw hq1 hq2 hq3 => ?_) (fun r_4 σ_4 H locs hq hw => ?_)
  · obtain ⟨rfl, hpx⟩ := hp
    refine xh_1 hc hw htab rfl (by decide)  mw_234 (by decide +kernel) hq1 hq2 hq3 ?_
    refine lv_astore_n (lv' := [(3, .ref q9), (0, .ref (ad 6 0)), (1, .int a), (2, .ref (ad 8 0))]) hx hb dL_cut_12 rfl hl (by decide) rfl (fun ls hl => ?_)
    refine lv_iconst (v := 1) hx hb dL_cut_13 (by decide) ?_
    exact xr_i (u := (ad, nB, σ)) hc hlocks hr rfl hw (Or.inr ⟨rfl, ⟨rfl, hpx⟩, rfl⟩) (Nat.le_of_ble_eq_true rfl) (Nat.le_of_ble_eq_true rfl) dL_cut_14
  obtain ⟨ad_4, m_4, σ_4⟩ := σ_4
  have hq_4 := hq
  have hag_4 : ∀ a b, b < (x_n nS nB nC nO) a → ad_4 a b = ad a b := hq.1
  replace hw : x_B D cs base ad_4 (x_n nS m_4 nC nO) (x_s nS m_4 nC nO nS nC) σ_4 s H locs := hw
  have hl : lv_has ls 4 [(0, .ref (ad_4 6 0)), (1, .int a), (2, .ref (ad_4 8 0))] := by rw [hag_4 6 0 (Nat.zero_lt_one), hag_4 8 0 (Nat.zero_lt_one)]; exact hl
  rw [← hag_4 8 0 (Nat.zero_lt_one)]
  refine lv_i2l hx hb dL_cut_7 rfl ?_
  refine xl_st (j := 0) hc hw (Nat.zero_lt_one) rfl (by decide) dL_cut_8 (fun H locs hw => ?_)
  refine lv_goto (tgt := 15) hx hb dL_cut_9 (by decide) ?_
  refine lv_iconst (v := 0) hx hb dL_cut_15 (by decide) ?_
  exact xr_i (u := (ad_4, m_4, x_up σ_4 8 0 0 r_4)) hc hlocks hr rfl hw (Or.inl ⟨rfl, r_4, (ad_4, m_4, σ_4), hq_4, rfl⟩) (Nat.le_of_ble_eq_true rfl) (Nat.le_of_ble_eq_true rfl) dL_cut_16
