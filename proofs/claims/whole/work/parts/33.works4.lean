def f_kp (σ σc : x_St) : Prop := ∀ k i j : Nat, ¬ (k = 1 ∧ j = 6) → ¬ (k = 4 ∧ j = 7) → σc k i j = σ k i j
theorem f_gv_k (o : Nat) (v : Int32) : ∀ (f c r : Nat) (σ : x_St) (k i j : Nat), ¬ (k = 1 ∧ j = 6) → f_gv o v f c r σ k i j = σ k i j
  | 0, _, _, _, _, _, _, _ => rfl
  | f + 1, c, r, σ, k, i, j, h => by
    rw [f_gv]
    split
    · rfl
    · split
      · rw [f_gv_k o v f (c + 1) (r - 1) _ k i j h, x_up_n (fun q => h ⟨q.1, q.2.2⟩)]
      · rw [f_gv_k o v f (c + 1) r σ k i j h]
theorem f_gv_4 (o : Nat) (v : Int32) (f c r : Nat) (σ : x_St) (i j : Nat) : f_gv o v f c r σ 4 i j = σ 4 i j := f_gv_k o v f c r σ 4 i j (by simp)
theorem x_up_40 (σ : x_St) (q : Nat) (v : Int32) (i : Nat) : x_up σ 4 q 7 v 4 i 0 = σ 4 i 0 := x_up_n (by simp)
theorem x_up_4 (σ : x_St) (q : Nat) (v : Int32) (i : Nat) : x_up σ 4 q 7 v 4 i 0 = σ 4 i 0 ∧ x_up σ 4 q 7 v 4 i 5 = σ 4 i 5 ∧ x_up σ 4 q 7 v 4 i 6 = σ 4 i 6 := ⟨x_up_n (by simp), x_up_n (by simp), x_up_n (by simp)⟩
def f_se (a : Int32) (nC : Nat) : Nat → Nat → x_St → Int32 → Int32 × x_St
  | 0, _, σ, s => (s, σ)
  | f + 1, k, σ, s => if σ 4 (x_c (σ 18 0 k)) 7 = -1 ∧ ¬ nI (f_nr σ (x_c (σ 18 0 k)) nC 0) < σ 4 (x_c (σ 18 0 k)) 0 then
      f_se a nC f (k + 1) (x_up (f_gv (x_c (σ 18 0 k)) (nI (x_c (σ 18 0 k))) nC 0 (x_c (σ 4 (x_c (σ 18 0 k)) 0)) σ) 4 (x_c (σ 18 0 k)) 7 a) (s + σ 4 (x_c (σ 18 0 k)) 0 * (if σ 4 (x_c (σ 18 0 k)) 5 < a then σ 4 (x_c (σ 18 0 k)) 6 / 2 else σ 4 (x_c (σ 18 0 k)) 6))
    else f_se a nC f (k + 1) σ s
def f_qb (num : Nat) : Nat → x_St → x_St
  | 0, σ => x_up σ 18 0 0 (nI num)
  | t + 1, σ => if σ 4 num 5 < σ 4 (x_c (σ 18 0 t)) 5 then f_qb num t (x_up σ 18 0 (t + 1) (σ 18 0 t)) else x_up σ 18 0 (t + 1) (nI num)
theorem x_npos {x : Int32} {n : Nat} (h : x = nI n) (h0 : ¬ x ≤ 0) : 0 < n := by
  rcases Nat.eq_zero_or_pos n with q | q
  · exact absurd (by rw [h, q]; decide) h0
  · exact q
theorem x_z0 {x : Int32} {n : Nat} (h : x = nI n) (hn : n < 2 ^ 31) (h0 : x ≤ 0) : n = 0 := by
  rw [h] at h0
  have := (nI_leI hn (by decide)).mp (show nI n ≤ nI 0 from h0)
  omega

/-- X6_send -/
def q_X6_send (σ : x_St) (a : Int32) (nC nO : Nat) : Int32 → x_St → Prop := fun r σ' => (0 ≤ a ∧ a ≤ 2000) ∧ r = (f_se a nC nO 0 σ 0).1 ∧ σ' = x_up (f_se a nC nO 0 σ 0).2 6 0 13 (σ 6 0 13 + (f_se a nC nO 0 σ 0).1)
set_option maxHeartbeats 4000000 in
set_option maxRecDepth 100000 in
theorem c_X6_send {l : Launch} {D : va_G} {cs : Nat → ClassId} {base : Nat} {ad : Nat → Nat → Nat} {nS nB nC nO : Nat} {σ : x_St} (hl0 : l.stackTraces = false) (a : Int32) (hC : σ 6 0 6 = nI nC) (hC0 : nC ≤ 30) (hO : σ 6 0 8 = nI nO) (hO0 : nO ≤ 30) (hbd : ∀ q, q < nO → σ 18 0 q = nI (x_c (σ 18 0 q)) ∧ x_c (σ 18 0 q) < nO) (hcd : ∀ q, q < nO → σ 4 q 0 = nI (x_c (σ 4 q 0)) ∧ x_c (σ 4 q 0) ≤ 9) : x_Xi l yX6_send cX6_send 6 (some .int) 8 1 6 D cs base ad (x_n nS nB nC nO) (x_s nS nB nC nO nS nC) σ [.ref (ad 6 0), .int a] (q_X6_send σ a nC nO) (fun σ' => x_U D cs base ad (x_n nS nB nC nO) (x_s nS nB nC nO nS nC) σ') (fun E => E = x_iae ∧ ¬ (0 ≤ a ∧ a ≤ 2000)) := by
  refine vx_ofW (cc := cX6_send) (maxL := 6) (ret := some .int) (by decide) rfl ?_
  intro p e s m args below meth c s₁ B hml hout hv
  obtain ⟨rfl, hU⟩ := hv
  have hx := B.exec
  have hb := B.bytes
  have hr := B.returns
  have hts := atoms_spec (ws := Cond.code yX6_send cX6_send 6 (some .int) :: Tw) B.pre
  have hown : s.vm.findClass RX6 = some m.cls := findClass_of_methodNamed B.named
  have hlocks := B.notSynchronized
  have hc : CallFix p m c cX6_send 6 s (([.ref (ad 6 0), .int a] : List Value).toArray) Tw RX6 := ⟨hx, hb, hml, hown, fun w hw => hts w (List.mem_cons_of_mem _ hw)⟩
  have hw := x_B.start hU
  have hl := lv_entry ([.ref (ad 6 0), .int a]) (n := 6) (Nat.le_of_ble_eq_true rfl)
  rw [lg_entry_eq]
  generalize (lg_sl ([.ref (ad 6 0), .int a]) ++ List.replicate (6 - (lg_sl ([.ref (ad 6 0), .int a])).length) Slot.unset).toArray = ls at hl ⊢
  have hl : lv_has ls 6 [(0, .ref (ad 6 0)), (1, .int a)] := hl
  show W p l e (x_rm 8 1 6) s m ([.ref (ad 6 0), .int a] : List Value).toArray below meth c s.heap [] 0 0 (vx_MQ below (va_Qi (q_X6_send σ a nC nO) (fun σ' => x_U D cs base ad (x_n nS nB nC nO) (x_s nS nB nC nO nS nC) σ') (x_A base)) (x_XC D cs base ad (x_n nS nB nC nO) (x_s nS nB nC nO nS nC) σ (fun E => E = x_iae ∧ ¬ (0 ≤ a ∧ a ≤ 2000))) ([.ref (ad 6 0), .int a] : List Value).toArray s 1 6 (x_A base)) (F0 m 0 ls [])
  refine lv_iload_n hx hb dX6_send_0 rfl (lv_at hl 1 rfl) ?_
  refine lv_iconst (v := 0) hx hb dX6_send_1 (by decide) ?_
  refine lv_sipush (v := 2000) hx hb dX6_send_2 (by decide) ?_
  refine xc_Si hc hw (c_X6_isWithin a 0 2000) mw_128 mw_126 mw_1 mw_127 xd_X6_isWithin ⟨by decide, by decide⟩ (rfl) hl.1 (Nat.le_of_ble_eq_true rfl) dX6_send_5 ⟨Nat.le_of_ble_eq_true rfl, Nat.le_of_ble_eq_true rfl⟩ (fun r_5 σ_5 H locs hq hw => ?_)
  obtain ⟨hσ_5, hr_5⟩ := hq
  rw [hσ_5] at hw
  refine lv_if_ne (tgt := 21) hx hb dX6_send_8 (by decide) (fun c_8 => ?_) (fun c_8 => ?_)
  · refine lv_iconst (v := 0) hx hb dX6_send_21 (by decide) ?_
    refine lv_istore_n (lv' := [(2, .int 0), (0, .ref (ad 6 0)), (1, .int a)]) hx hb dX6_send_22 rfl hl (by decide) rfl (fun ls hl => ?_)
    refine lv_iconst (v := 0) hx hb dX6_send_23 (by decide) ?_
    refine lv_istore_n (lv' := [(3, .int 0), (2, .int 0), (0, .ref (ad 6 0)), (1, .int a)]) hx hb dX6_send_24 rfl hl (by decide) rfl (fun ls hl => ?_)
    have cut_25 : ∀ (N : Nat) (k : Nat) (x2 : Int32) (x3 : Int32) (σc : x_St), (k ≤ nO) → (x3 = nI k) → (f_kp σ σc) → (f_se a nC (nO - k) k σc x2 = f_se a nC nO 0 σ 0) → (nO - k < N) → ∀ (H : Heap) (locs : List Loc) (ls : Array Slot), lv_has ls 6 [(0, .ref (ad 6 0)), (1, .int a), (2, .int x2), (3, .int x3)] → x_B D cs base ad (x_n nS nB nC nO) (x_s nS nB nC nO nS nC) σc s H locs → W p l e (x_rm 8 1 6) s m ([.ref (ad 6 0), .int a] : List Value).toArray below meth c H locs 0 0 (vx_MQ below (va_Qi (q_X6_send σ a nC nO) (fun σ' => x_U D cs base ad (x_n nS nB nC nO) (x_s nS nB nC nO nS nC) σ') (x_A base)) (x_XC D cs base ad (x_n nS nB nC nO) (x_s nS nB nC nO nS nC) σ (fun E => E = x_iae ∧ ¬ (0 ≤ a ∧ a ≤ 2000))) ([.ref (ad 6 0), .int a] : List Value).toArray s 1 6 (x_A base)) (F0 m 25 ls []) := by
      intro N
      induction N with
      | zero => intro k x2 x3 σc hk h3 hkp hI hN; exact absurd hN (Nat.not_lt_zero _)
      | succ N ih_25 =>
        intro k x2 x3 σc hk h3 hkp hI hN H locs ls hl hw
        refine lv_iload_n hx hb dX6_send_25 rfl (lv_at hl 3 rfl) ?_
        refine lv_aload_n hx hb dX6_send_26 rfl (lv_at hl 0 rfl) ?_
        refine xg_i hc hw 6 0 8 rfl rfl rfl rfl (by decide) (Nat.zero_lt_one) mw_87 dX6_send_27 ?_
        refine lv_icmp_ge (tgt := 102) hx hb dX6_send_30 (by decide) (fun c_30 => ?_) (fun c_30 => ?_)
        · refine lv_aload_n hx hb dX6_send_102 rfl (lv_at hl 0 rfl) ?_
          refine lv_dup hx hb dX6_send_103 rfl ?_
          refine xg_i hc hw 6 0 13 rfl rfl rfl rfl (by decide) (Nat.zero_lt_one) mw_92 dX6_send_104 ?_
          refine lv_iload_n hx hb dX6_send_107 rfl (lv_at hl 2 rfl) ?_
          refine lv_iadd hx hb dX6_send_108 ?_
          refine xp_i hc hw 6 0 13 rfl rfl rfl rfl (by decide) (Nat.zero_lt_one) rfl (ty := .int) (by decide +kernel) rfl rfl mw_92 dX6_send_109 (fun H locs hw => ?_)
          refine lv_iload_n hx hb dX6_send_112 rfl (lv_at hl 2 rfl) ?_
          exact xr_xi hc hlocks hr rfl hw (by have hz := x_ge h3 ((hkp 6 0 8 (by decide) (by decide)).trans hO) (by omega) (by omega) c_30; rw [show nO - k = 0 by omega, f_se] at hI; rw [q_X6_send, ← hI]; exact ⟨x_if1 hr_5 c_8, rfl, by rw [hkp 6 0 13 (by decide) (by decide)]⟩) (Nat.le_of_ble_eq_true rfl) (Nat.le_of_ble_eq_true rfl) dX6_send_113
        · have hlt : k < nO := x_nge h3 ((hkp 6 0 8 (by decide) (by decide)).trans hO) (by omega) (by omega) c_30
          have hst : nO - k = (nO - (k + 1)) + 1 := by omega
          rw [hst, f_se] at hI
          have hq1 : σc 18 0 k = nI (x_c (σc 18 0 k)) := (by rw [hkp 18 0 k (by simp) (by simp)]; exact (hbd k hlt).1)
          have hq2 : (x_c (σc 18 0 k)) < nO := (by rw [hkp 18 0 k (by simp) (by simp)]; exact (hbd k hlt).2)
          have hw1 : σc 4 (x_c (σc 18 0 k)) 0 = nI (x_c (σc 4 (x_c (σc 18 0 k)) 0)) := (by rw [hkp 4 _ 0 (by decide) (by decide)]; exact (hcd _ hq2).1)
          have hw2 : x_c (σc 4 (x_c (σc 18 0 k)) 0) ≤ 9 := (by rw [hkp 4 _ 0 (by decide) (by decide)]; exact (hcd _ hq2).2)
          have cut_96 : ∀ (y2 : Int32) (σd : x_St), (f_kp σ σd) → (f_se a nC (nO - (k + 1)) (k + 1) σd y2 = f_se a nC nO 0 σ 0) → ∀ (H : Heap) (locs : List Loc) (ls : Array Slot), lv_has ls 6 [(0, .ref (ad 6 0)), (1, .int a), (2, .int y2), (3, .int x3)] → x_B D cs base ad (x_n nS nB nC nO) (x_s nS nB nC nO nS nC) σd s H locs → W p l e (x_rm 8 1 6) s m ([.ref (ad 6 0), .int a] : List Value).toArray below meth c H locs 0 0 (vx_MQ below (va_Qi (q_X6_send σ a nC nO) (fun σ' => x_U D cs base ad (x_n nS nB nC nO) (x_s nS nB nC nO nS nC) σ') (x_A base)) (x_XC D cs base ad (x_n nS nB nC nO) (x_s nS nB nC nO nS nC) σ (fun E => E = x_iae ∧ ¬ (0 ≤ a ∧ a ≤ 2000))) ([.ref (ad 6 0), .int a] : List Value).toArray s 1 6 (x_A base)) (F0 m 96 ls []) := by
            intro y2 σd hkd hId H locs ls hl hw
            obtain ⟨x3_96, ex3_96⟩ : ∃ y : Int32, y = x3 + 1 := ⟨_, rfl⟩
            refine lv_iinc (v := x3_96) (lv' := [(3, .int x3_96), (0, .ref (ad 6 0)), (1, .int a), (2, .int y2)]) hx hb dX6_send_96 hl (k := 3) rfl (by rw [ex3_96]; rfl) (by decide) rfl (fun ls hl => ?_)
            refine lv_goto (tgt := 25) hx hb dX6_send_99 (by decide) ?_
            exact ih_25 (k + 1) _ _ _ (by omega) (by rw [ex3_96, h3, nI_1]) (hkd) (hId) (by omega) _ _ _ (lv_sub hl [1, 2, 3, 0] rfl) hw
          refine lv_aload_n hx hb dX6_send_33 rfl (lv_at hl 0 rfl) ?_
          refine xg_r hc hw 6 0 9 rfl rfl rfl rfl (by decide) (Nat.zero_lt_one) (Nat.zero_lt_one) mw_88 dX6_send_34 ?_
          refine lv_iload_n hx hb dX6_send_37 rfl (lv_at hl 3 rfl) ?_
          refine xa_ld hc hw 18 0 k rfl (Nat.zero_lt_one) (h3) (by show _ < 30; omega) dX6_send_38 ?_
          refine lv_topi (fun x4v ex4v => ?_)
          refine lv_istore (lv' := [(4, .int x4v), (0, .ref (ad 6 0)), (1, .int a), (2, .int x2), (3, .int x3)]) hx hb dX6_send_39 hl (by decide) rfl (fun ls hl => ?_)
          refine lv_aload_n hx hb dX6_send_41 rfl (lv_at hl 1 rfl) ?_
          refine xg_r hc hw 6 0 7 rfl rfl rfl rfl (by decide) (Nat.zero_lt_one) (Nat.zero_lt_one) mw_86 dX6_send_42 ?_
          refine lv_iload hx hb dX6_send_45 (lv_at hl 0 rfl) ?_
          refine xa_rld hc hw 24 0 (x_c (σc 18 0 k)) rfl (Nat.zero_lt_one) (by rw [ex4v]; exact hq1) (by show _ < 30; omega) (hq2) dX6_send_47 ?_
          refine lv_astore (lv' := [(5, .ref (ad 4 (x_c (σc 18 0 k)))), (4, .int x4v), (0, .ref (ad 6 0)), (1, .int a), (2, .int x2), (3, .int x3)]) hx hb dX6_send_48 hl (by decide) rfl (fun ls hl => ?_)
          refine lv_aload hx hb dX6_send_50 (lv_at hl 0 rfl) ?_
          refine xg_i hc hw 4 (x_c (σc 18 0 k)) 7 rfl rfl rfl rfl (by decide) (hq2) mw_209 dX6_send_52 ?_
          refine lv_iconst (v := (-1)) hx hb dX6_send_55 (by decide) ?_
          refine lv_icmp_ne (tgt := 96) hx hb dX6_send_56 (by decide) (fun c_56 => ?_) (fun c_56 => ?_)
          · exact cut_96 _ _ (hkp) (by rw [if_neg (show ¬ (σc 4 (x_c (σc 18 0 k)) 7 = -1 ∧ ¬ nI (f_nr σc (x_c (σc 18 0 k)) nC 0) < σc 4 (x_c (σc 18 0 k)) 0) from fun q => c_56 q.1)] at hI; exact hI) _ _ _ (lv_sub hl [2, 3, 4, 5] rfl) hw
          · refine lv_aload_n hx hb dX6_send_59 rfl (lv_at hl 2 rfl) ?_
            refine lv_aload hx hb dX6_send_60 (lv_at hl 0 rfl) ?_
            refine xc_Vi hc hw 6 0 (c_X6_fittingCards (x_c (σc 18 0 k)) hq2 ((hkp 6 0 6 (by decide) (by decide)).trans hC) hC0) rfl rfl (Nat.zero_lt_one) mw_650 mw_647 mw_1 mw_649 mp_17 xd_X6_fittingCards ⟨by decide, by decide⟩ (rfl) hl.1 (Nat.le_of_ble_eq_true rfl) dX6_send_62 ⟨Nat.le_of_ble_eq_true rfl, Nat.le_of_ble_eq_true rfl⟩ (fun r_62 σ_62 H locs hq hw => ?_)
            obtain ⟨hσ_62, hr_62⟩ := hq
            rw [hσ_62] at hw
            refine lv_aload hx hb dX6_send_65 (lv_at hl 0 rfl) ?_
            refine xg_i hc hw 4 (x_c (σc 18 0 k)) 0 rfl rfl rfl rfl (by decide) (hq2) mw_200 dX6_send_67 ?_
            refine lv_icmp_lt (tgt := 96) hx hb dX6_send_70 (by decide) (fun c_70 => ?_) (fun c_70 => ?_)
            · exact cut_96 _ _ (hkp) (by rw [if_neg (show ¬ (σc 4 (x_c (σc 18 0 k)) 7 = -1 ∧ ¬ nI (f_nr σc (x_c (σc 18 0 k)) nC 0) < σc 4 (x_c (σc 18 0 k)) 0) from fun q => q.2 (by rw [← hr_62]; exact c_70))] at hI; exact hI) _ _ _ (lv_sub hl [2, 3, 4, 5] rfl) hw
            · have hin : σc 4 (x_c (σc 18 0 k)) 7 = -1 ∧ ¬ nI (f_nr σc (x_c (σc 18 0 k)) nC 0) < σc 4 (x_c (σc 18 0 k)) 0 := ⟨c_56, by rw [← hr_62]; exact c_70⟩
              rw [if_pos hin] at hI
              refine lv_aload_n hx hb dX6_send_73 rfl (lv_at hl 2 rfl) ?_
              refine lv_aload hx hb dX6_send_74 (lv_at hl 0 rfl) ?_
              refine lv_iload hx hb dX6_send_76 (lv_at hl 1 rfl) ?_
              refine xc_Vv hc hw 6 0 (c_X6_giveCards (x_c (σc 18 0 k)) (x_c (σc 4 (x_c (σc 18 0 k)) 0)) x4v hq2 hw1 hw2 ((hkp 6 0 6 (by decide) (by decide)).trans hC) hC0) rfl rfl (Nat.zero_lt_one) mw_659 mw_656 mw_1 mw_658 mp_18 xd_X6_giveCards ⟨by decide, by decide⟩ (rfl) hl.1 (Nat.le_of_ble_eq_true rfl) dX6_send_78 ⟨Nat.le_of_ble_eq_true rfl, Nat.le_of_ble_eq_true rfl⟩ (fun σ_78 H locs hq hw => ?_)
              have hq_78 := hq
              have hσ_78 : σ_78 = f_gv (x_c (σc 18 0 k)) x4v nC 0 (x_c (σc 4 (x_c (σc 18 0 k)) 0)) σc := hq_78
              refine lv_aload hx hb dX6_send_81 (lv_at hl 0 rfl) ?_
              refine lv_iload_n hx hb dX6_send_83 rfl (lv_at hl 3 rfl) ?_
              refine xp_i hc hw 4 (x_c (σc 18 0 k)) 7 rfl rfl rfl rfl (by decide) (hq2) rfl (ty := .int) (by decide +kernel) rfl rfl mw_209 dX6_send_84 (fun H locs hw => ?_)
              refine lv_iload_n hx hb dX6_send_87 rfl (lv_at hl 4 rfl) ?_
              refine lv_aload hx hb dX6_send_88 (lv_at hl 0 rfl) ?_
              refine lv_iload_n hx hb dX6_send_90 rfl (lv_at hl 3 rfl) ?_
              refine xc_Vi hc hw 4 (x_c (σc 18 0 k)) (c_X4_payOn (x_c (σc 18 0 k)) a (hq2)) rfl rfl (hq2) mw_663 mw_660 mw_15 mw_661 mw_662 xd_X4_payOn ⟨by decide, by decide⟩ (rfl) hl.1 (Nat.le_of_ble_eq_true rfl) dX6_send_91 ⟨Nat.le_of_ble_eq_true rfl, Nat.le_of_ble_eq_true rfl⟩ (fun r_91 σ_91 H locs hq hw => ?_)
              obtain ⟨hσ_91, hr_91⟩ := hq
              rw [hσ_91] at hw
              refine lv_iadd hx hb dX6_send_94 ?_
              refine lv_topi (fun x2_95 ex2_95 => ?_)
              refine lv_istore_n (lv' := [(2, .int x2_95), (5, .ref (ad 4 (x_c (σc 18 0 k)))), (4, .int x4v), (0, .ref (ad 6 0)), (1, .int a), (3, .int x3)]) hx hb dX6_send_95 rfl hl (by decide) rfl (fun ls hl => ?_)
              exact cut_96 _ _ (by rw [hσ_78]; exact fun k i j q1 q2 => by rw [x_up_n (fun z => q2 ⟨z.1, z.2.2⟩), f_gv_k _ _ _ _ _ _ _ _ _ q1]; exact hkp k i j q1 q2) (by rw [ex2_95, hr_91]; simp only [hσ_78, x_up_4, f_gv_4]; rw [ex4v, hq1, x_cn (by omega)]; exact hI) _ _ _ (lv_sub hl [3, 4, 0, 5] rfl) hw
    exact cut_25 _ 0 _ _ _ (Nat.zero_le _) (rfl) (fun _ _ _ _ _ => rfl) (rfl) (Nat.lt_succ_self _) _ _ _ (lv_sub hl [2, 3, 1, 0] rfl) hw
  · exact xk_I hl0 hc hout hlocks hw (is := 254) (text := "no such day") (by decide +kernel) (⟨rfl, x_if0 hr_5 c_8⟩) dX6_send_11 dX6_send_14 dX6_send_15 dX6_send_17 dX6_send_20 hl.1 ⟨by decide, Nat.le_of_ble_eq_true rfl, by decide, by decide⟩ (by decide) (by decide)
/-- X6_queueByDay -/
def q_X6_queueByDay (σ : x_St) (num : Nat) : x_St → Prop := fun σ' => σ' = f_qb num num σ
set_option maxHeartbeats 4000000 in
set_option maxRecDepth 100000 in
theorem c_X6_queueByDay {l : Launch} {D : va_G} {cs : Nat → ClassId} {base : Nat} {ad : Nat → Nat → Nat} {nS nB nC nP : Nat} {σ : x_St} (num : Nat) (hnum : num < nP) (h30 : num < 30) (hbd : ∀ q, q < num → σ 18 0 q = nI (x_c (σ 18 0 q)) ∧ x_c (σ 18 0 q) < nP ∧ x_c (σ 18 0 q) < 30) : x_Cv l yX6_queueByDay cX6_queueByDay 3 1 0 0 D cs base ad (x_n nS nB nC nP) (x_s nS nB nC nP nS nC) σ [.ref (ad 6 0), .int (nI num)] (q_X6_queueByDay σ num) (fun σ' => x_U D cs base ad (x_n nS nB nC nP) (x_s nS nB nC nP nS nC) σ') := by
  refine Met.ofW (cc := cX6_queueByDay) (maxL := 3) (ret := none) (by decide) rfl ?_
  intro p e s m args below meth c s₁ B hml hv
  obtain ⟨rfl, hU⟩ := hv
  have hx := B.exec
  have hb := B.bytes
  have hr := B.returns
  have hts := atoms_spec (ws := Cond.code yX6_queueByDay cX6_queueByDay 3 (none) :: Tw) B.pre
  have hown : s.vm.findClass RX6 = some m.cls := findClass_of_methodNamed B.named
  have hlocks := B.notSynchronized
  have hc : CallFix p m c cX6_queueByDay 3 s (([.ref (ad 6 0), .int (nI num)] : List Value).toArray) Tw RX6 := ⟨hx, hb, hml, hown, fun w hw => hts w (List.mem_cons_of_mem _ hw)⟩
  have hw := x_B.start hU
  have hl := lv_entry ([.ref (ad 6 0), .int (nI num)]) (n := 3) (Nat.le_of_ble_eq_true rfl)
  rw [lg_entry_eq]
  generalize (lg_sl ([.ref (ad 6 0), .int (nI num)]) ++ List.replicate (3 - (lg_sl ([.ref (ad 6 0), .int (nI num)])).length) Slot.unset).toArray = ls at hl ⊢
  have hl : lv_has ls 3 [(0, .ref (ad 6 0)), (1, .int (nI num))] := hl
  show W p l e (x_rm 1 0 0) s m ([.ref (ad 6 0), .int (nI num)] : List Value).toArray below meth c s.heap [] 0 0 (MQ below (va_Qv (q_X6_queueByDay σ num) (fun σ' => x_U D cs base ad (x_n nS nB nC nP) (x_s nS nB nC nP nS nC) σ') (x_A base)) ([.ref (ad 6 0), .int (nI num)] : List Value).toArray s 0 0 (x_A base)) (F0 m 0 ls [])
  refine lv_iload_n hx hb dX6_queueByDay_0 rfl (lv_at hl 1 rfl) ?_
  refine lv_topi (fun x2_1 ex2_1 => ?_)
  refine lv_istore_n (lv' := [(2, .int x2_1), (0, .ref (ad 6 0)), (1, .int (nI num))]) hx hb dX6_queueByDay_1 rfl hl (by decide) rfl (fun ls hl => ?_)
  have cut_2 : ∀ (N : Nat) (tt : Nat) (x2 : Int32) (σc : x_St), (tt ≤ num) → (x2 = nI tt) → (∀ q, q < tt → σc 18 0 q = nI (x_c (σc 18 0 q)) ∧ x_c (σc 18 0 q) < nP ∧ x_c (σc 18 0 q) < 30) → (f_qb num tt σc = f_qb num num σ) → (tt < N) → ∀ (H : Heap) (locs : List Loc) (ls : Array Slot), lv_has ls 3 [(0, .ref (ad 6 0)), (1, .int (nI num)), (2, .int x2)] → x_B D cs base ad (x_n nS nB nC nP) (x_s nS nB nC nP nS nC) σc s H locs → W p l e (x_rm 1 0 0) s m ([.ref (ad 6 0), .int (nI num)] : List Value).toArray below meth c H locs 0 0 (MQ below (va_Qv (q_X6_queueByDay σ num) (fun σ' => x_U D cs base ad (x_n nS nB nC nP) (x_s nS nB nC nP nS nC) σ') (x_A base)) ([.ref (ad 6 0), .int (nI num)] : List Value).toArray s 0 0 (x_A base)) (F0 m 2 ls []) := by
    intro N
    induction N with
    | zero => intro tt x2 σc htt h2 hbq hI hN; exact absurd hN (Nat.not_lt_zero _)
    | succ N ih_2 =>
      intro tt x2 σc htt h2 hbq hI hN H locs ls hl hw
      have cut_54 : ∀ (t9 : Nat) (σd : x_St), (t9 ≤ num) → (x2 = nI t9) → (x_up σd 18 0 t9 (nI num) = f_qb num num σ) → ∀ (H : Heap) (locs : List Loc) (ls : Array Slot), lv_has ls 3 [(0, .ref (ad 6 0)), (1, .int (nI num)), (2, .int x2)] → x_B D cs base ad (x_n nS nB nC nP) (x_s nS nB nC nP nS nC) σd s H locs → W p l e (x_rm 1 0 0) s m ([.ref (ad 6 0), .int (nI num)] : List Value).toArray below meth c H locs 0 0 (MQ below (va_Qv (q_X6_queueByDay σ num) (fun σ' => x_U D cs base ad (x_n nS nB nC nP) (x_s nS nB nC nP nS nC) σ') (x_A base)) ([.ref (ad 6 0), .int (nI num)] : List Value).toArray s 0 0 (x_A base)) (F0 m 54 ls []) := by
        intro t9 σd h9 h2d hId H locs ls hl hw
        refine lv_aload_n hx hb dX6_queueByDay_54 rfl (lv_at hl 0 rfl) ?_
        refine xg_r hc hw 6 0 9 rfl rfl rfl rfl (by decide) (Nat.zero_lt_one) (Nat.zero_lt_one) mw_88 dX6_queueByDay_55 ?_
        refine lv_iload_n hx hb dX6_queueByDay_58 rfl (lv_at hl 2 rfl) ?_
        refine lv_iload_n hx hb dX6_queueByDay_59 rfl (lv_at hl 1 rfl) ?_
        refine xa_st hc hw 18 0 t9 rfl (Nat.zero_lt_one) (h2d) (by show _ < 30; omega) dX6_queueByDay_60 (fun H locs hw => ?_)
        exact xr_v hc hlocks hr hw (hId) (Nat.le_of_ble_eq_true rfl) (Nat.le_of_ble_eq_true rfl) dX6_queueByDay_61
      refine lv_iload_n hx hb dX6_queueByDay_2 rfl (lv_at hl 2 rfl) ?_
      refine lv_if_le (tgt := 54) hx hb dX6_queueByDay_3 (by decide) (fun c_3 => ?_) (fun c_3 => ?_)
      · exact cut_54 0 _ (Nat.zero_le _) (by rw [h2, x_z0 h2 (by omega) c_3]) (by rw [x_z0 h2 (by omega) c_3, f_qb] at hI; exact hI) _ _ _ (lv_sub hl [0, 1, 2] rfl) hw
      · obtain ⟨t, rfl⟩ : ∃ t, tt = t + 1 := ⟨tt - 1, by have q := x_npos h2 c_3; omega⟩
        have hm1 : x2 - 1 = nI t := (by rw [h2, nI_pred])
        obtain ⟨hb1, hb2, hb3⟩ := hbq t (Nat.lt_succ_self t)
        rw [f_qb] at hI
        refine lv_aload_n hx hb dX6_queueByDay_6 rfl (lv_at hl 0 rfl) ?_
        refine xg_r hc hw 6 0 7 rfl rfl rfl rfl (by decide) (Nat.zero_lt_one) (Nat.zero_lt_one) mw_86 dX6_queueByDay_7 ?_
        refine lv_aload_n hx hb dX6_queueByDay_10 rfl (lv_at hl 0 rfl) ?_
        refine xg_r hc hw 6 0 9 rfl rfl rfl rfl (by decide) (Nat.zero_lt_one) (Nat.zero_lt_one) mw_88 dX6_queueByDay_11 ?_
        refine lv_iload_n hx hb dX6_queueByDay_14 rfl (lv_at hl 2 rfl) ?_
        refine lv_iconst (v := 1) hx hb dX6_queueByDay_15 (by decide) ?_
        refine lv_isub hx hb dX6_queueByDay_16 ?_
        refine xa_ld hc hw 18 0 t rfl (Nat.zero_lt_one) (hm1) (by show _ < 30; omega) dX6_queueByDay_17 ?_
        refine xa_rld hc hw 24 0 (x_c (σc 18 0 t)) rfl (Nat.zero_lt_one) (hb1) (hb3) (hb2) dX6_queueByDay_18 ?_
        refine xg_i hc hw 4 (x_c (σc 18 0 t)) 5 rfl rfl rfl rfl (by decide) (hb2) mw_206 dX6_queueByDay_19 ?_
        refine lv_aload_n hx hb dX6_queueByDay_22 rfl (lv_at hl 0 rfl) ?_
        refine xg_r hc hw 6 0 7 rfl rfl rfl rfl (by decide) (Nat.zero_lt_one) (Nat.zero_lt_one) mw_86 dX6_queueByDay_23 ?_
        refine lv_iload_n hx hb dX6_queueByDay_26 rfl (lv_at hl 1 rfl) ?_
        refine xa_rld hc hw 24 0 num rfl (Nat.zero_lt_one) (rfl) (h30) (hnum) dX6_queueByDay_27 ?_
        refine xg_i hc hw 4 num 5 rfl rfl rfl rfl (by decide) (hnum) mw_206 dX6_queueByDay_28 ?_
        refine lv_icmp_le (tgt := 54) hx hb dX6_queueByDay_31 (by decide) (fun c_31 => ?_) (fun c_31 => ?_)
        · exact cut_54 (t + 1) _ (htt) (h2) (by rw [if_neg (Int32.not_lt.mpr c_31)] at hI; exact hI) _ _ _ (lv_sub hl [0, 1, 2] rfl) hw
        · refine lv_aload_n hx hb dX6_queueByDay_34 rfl (lv_at hl 0 rfl) ?_
          refine xg_r hc hw 6 0 9 rfl rfl rfl rfl (by decide) (Nat.zero_lt_one) (Nat.zero_lt_one) mw_88 dX6_queueByDay_35 ?_
          refine lv_iload_n hx hb dX6_queueByDay_38 rfl (lv_at hl 2 rfl) ?_
          refine lv_aload_n hx hb dX6_queueByDay_39 rfl (lv_at hl 0 rfl) ?_
          refine xg_r hc hw 6 0 9 rfl rfl rfl rfl (by decide) (Nat.zero_lt_one) (Nat.zero_lt_one) mw_88 dX6_queueByDay_40 ?_
          refine lv_iload_n hx hb dX6_queueByDay_43 rfl (lv_at hl 2 rfl) ?_
          refine lv_iconst (v := 1) hx hb dX6_queueByDay_44 (by decide) ?_
          refine lv_isub hx hb dX6_queueByDay_45 ?_
          refine xa_ld hc hw 18 0 t rfl (Nat.zero_lt_one) (hm1) (by show _ < 30; omega) dX6_queueByDay_46 ?_
          refine xa_st hc hw 18 0 (t + 1) rfl (Nat.zero_lt_one) (h2) (by show _ < 30; omega) dX6_queueByDay_47 (fun H locs hw => ?_)
          obtain ⟨x2_48, ex2_48⟩ : ∃ y : Int32, y = x2 + (-1) := ⟨_, rfl⟩
          refine lv_iinc (v := x2_48) (lv' := [(2, .int x2_48), (0, .ref (ad 6 0)), (1, .int (nI num))]) hx hb dX6_queueByDay_48 hl (k := 2) rfl (by rw [ex2_48]; rfl) (by decide) rfl (fun ls hl => ?_)
          refine lv_goto (tgt := 2) hx hb dX6_queueByDay_51 (by decide) ?_
          exact ih_2 t _ _ (by omega) (by rw [ex2_48, h2, pk_m1]) (fun q hq => by have e : x_up σc 18 0 (t + 1) (σc 18 0 t) 18 0 q = σc 18 0 q := x_up_n (fun z => by omega); rw [e]; exact hbq q (by omega)) (by rw [if_pos (Int32.not_le.mp c_31)] at hI; exact hI) (by omega) _ _ _ (lv_sub hl [1, 2, 0] rfl) hw
  exact cut_2 _ num _ _ (Nat.le_refl _) (ex2_1) (hbd) (rfl) (Nat.lt_succ_self _) _ _ _ (lv_sub hl [1, 2, 0] rfl) hw
