def x_n (nS nB nC nO : Nat) : Nat → Nat := fun k => match k with
  | 0 => nB | 1 => nC | 2 => 1 | 3 => 6 | 4 => nO | 5 => nS | 6 => 1 | 7 => 1 | 8 => 1 | 9 => 0 | 10 => nC | 11 => 1 | 12 => 1 | 13 => 1 | 14 => 1 | 15 => nS | 16 => nS | 17 => nS | 18 => 1 | 19 => 1 | 20 => 1 | 21 => 1 | 22 => 1 | 23 => 1 | 24 => 1
  | 25 => 0 | 26 => 0 | 27 => 0 | 28 => 0 | 29 => 0 | 30 => 0 | 31 => 0 | 32 => 0 | 33 => 0 | 34 => 0 | 35 => 0
  | k => if k < 70 then 1 else 0
def x_s (sS sB sC sO lS lC : Nat) : Nat → Nat := fun k => match k with
  | 20 => sS | 21 => sB | 22 => 6 | 23 => sC | 24 => sO
  | 102 => 1 | 110 => lC | 111 => 1 | 112 => 1 | 113 => 1 | 114 => 1 | 115 => lS | 116 => lS | 117 => lS | 118 => 1 | 119 => 1 | 120 => 1 | 121 => 1 | 122 => 1 | 123 => 1 | 124 => 1
  | k => if 136 ≤ k ∧ k < 170 then 1 else 0
theorem x_wm {a y : Int32} {n : Nat} (hy : y = nI n) (hn : n < 2 ^ 31) : (0 ≤ a ∧ a ≤ y - 1) ↔ (0 ≤ a ∧ a < y) := by
  subst hy
  cases n with
  | zero =>
    refine ⟨fun h => ?_, fun h => ?_⟩
    · exact absurd (Int32.le_trans h.1 h.2) (by decide)
    · exact absurd h.1 (Int32.not_le.mpr h.2)
  | succ k =>
    rw [nI_pred]
    refine and_congr_right (fun _ => ?_)
    rw [x_le, x_lt, nI_toInt (by omega), nI_toInt (by omega)]
    omega
theorem x_swbad {b : Int32} {n : Nat} (h : b < 0 ∨ nI (n + 1) ≤ b) (hn : n + 1 < 2 ^ 31 := by decide) : ¬ (0 ≤ b ∧ b ≤ nI n) := fun q => by
  rcases h with h | h
  · exact absurd q.1 (Int32.not_le.mpr h)
  · have := (nI_leI hn (by omega)).mp (Int32.le_trans h q.2)
    omega
theorem x_swgood {b : Int32} {j n : Nat} (h : b = nI j) (hj : j ≤ n) (hn : n < 2 ^ 31) : 0 ≤ b ∧ b ≤ nI n := by
  rw [h]; exact ⟨nI_pos' (by omega), nI_le hj hn⟩
def f_bf (q : Nat) : Nat := match q with | 0 => 0 | 1 => 1 | 2 => 2 | 3 => 3 | 4 => 5 | 5 => 6 | 6 => 7 | 7 => 8 | _ => 4

/-- X6_shellNumbered -/
def q_X6_shellNumbered (σ : x_St) (a : Int32) (nS : Nat) : Nat → Prop := fun j => j < nS ∧ j = x_c a ∧ (0 ≤ a ∧ a < σ 6 0 1)
set_option maxHeartbeats 4000000 in
set_option maxRecDepth 100000 in
theorem c_X6_shellNumbered {l : Launch} {D : va_G} {cs : Nat → ClassId} {base : Nat} {ad : Nat → Nat → Nat} {nS nB nC nO : Nat} {σ : x_St} (hl0 : l.stackTraces = false) (a : Int32) (hS : σ 6 0 1 = nI nS) (hS0 : nS ≤ 30) : x_Xr l yX6_shellNumbered cX6_shellNumbered 2 (some (.object "ButtonWorks$Shell")) 8 1 6 D cs base ad (x_n nS nB nC nO) (x_s nS nB nC nO nS nC) σ [.ref (ad 6 0), .int a] 5 (q_X6_shellNumbered σ a nS) (fun E => E = x_nse ∧ ¬ (0 ≤ a ∧ a < σ 6 0 1)) := by
  refine vx_ofW (cc := cX6_shellNumbered) (maxL := 2) (ret := some (.object "ButtonWorks$Shell")) (by decide) rfl ?_
  intro p e s m args below meth c s₁ B hml hout hv
  obtain ⟨rfl, hU⟩ := hv
  have hx := B.exec
  have hb := B.bytes
  have hr := B.returns
  have hts := atoms_spec (ws := Cond.code yX6_shellNumbered cX6_shellNumbered 2 (some (.object "ButtonWorks$Shell")) :: Tw) B.pre
  have hown : s.vm.findClass RX6 = some m.cls := findClass_of_methodNamed B.named
  have hlocks := B.notSynchronized
  have hc : CallFix p m c cX6_shellNumbered 2 s (([.ref (ad 6 0), .int a] : List Value).toArray) Tw RX6 := ⟨hx, hb, hml, hown, fun w hw => hts w (List.mem_cons_of_mem _ hw)⟩
  have hw := x_B.start hU
  have hl := lv_entry ([.ref (ad 6 0), .int a]) (n := 2) (Nat.le_of_ble_eq_true rfl)
  rw [lg_entry_eq]
  generalize (lg_sl ([.ref (ad 6 0), .int a]) ++ List.replicate (2 - (lg_sl ([.ref (ad 6 0), .int a])).length) Slot.unset).toArray = ls at hl ⊢
  have hl : lv_has ls 2 [(0, .ref (ad 6 0)), (1, .int a)] := hl
  show W p l e (x_rm 8 1 6) s m ([.ref (ad 6 0), .int a] : List Value).toArray below meth c s.heap [] 0 0 (vx_MQ below (va_Qr (q_X6_shellNumbered σ a nS) (fun i a t => a = ad 5 i ∧ x_U D cs base ad (x_n nS nB nC nO) (x_s nS nB nC nO nS nC) σ t) (x_A base)) (x_XC D cs base ad (x_n nS nB nC nO) (x_s nS nB nC nO nS nC) σ (fun E => E = x_nse ∧ ¬ (0 ≤ a ∧ a < σ 6 0 1))) ([.ref (ad 6 0), .int a] : List Value).toArray s 1 6 (x_A base)) (F0 m 0 ls [])
  refine lv_iload_n hx hb dX6_shellNumbered_0 rfl (lv_at hl 1 rfl) ?_
  refine lv_iconst (v := 0) hx hb dX6_shellNumbered_1 (by decide) ?_
  refine lv_aload_n hx hb dX6_shellNumbered_2 rfl (lv_at hl 0 rfl) ?_
  refine xg_i hc hw 6 0 1 rfl rfl rfl rfl (by decide) (Nat.zero_lt_one) mw_80 dX6_shellNumbered_3 ?_
  refine lv_iconst (v := 1) hx hb dX6_shellNumbered_6 (by decide) ?_
  refine lv_isub hx hb dX6_shellNumbered_7 ?_
  refine xc_Si hc hw (c_X6_isWithin a 0 ((σ 6 0 1) - 1)) mw_128 mw_126 mw_1 mw_127 xd_X6_isWithin ⟨by decide, by decide⟩ (rfl) hl.1 (Nat.le_of_ble_eq_true rfl) dX6_shellNumbered_8 ⟨Nat.le_of_ble_eq_true rfl, Nat.le_of_ble_eq_true rfl⟩ (fun r_8 σ_8 H locs hq hw => ?_)
  obtain ⟨hσ_8, hr_8⟩ := hq
  rw [hσ_8] at hw
  refine lv_if_ne (tgt := 25) hx hb dX6_shellNumbered_11 (by decide) (fun c_11 => ?_) (fun c_11 => ?_)
  · have hP := (x_wm hS (by omega)).mp (x_if1 hr_8 c_11)
    refine lv_aload_n hx hb dX6_shellNumbered_25 rfl (lv_at hl 0 rfl) ?_
    refine xg_r hc hw 6 0 0 rfl rfl rfl rfl (by decide) (Nat.zero_lt_one) (Nat.zero_lt_one) mw_79 dX6_shellNumbered_26 ?_
    refine lv_iload_n hx hb dX6_shellNumbered_29 rfl (lv_at hl 1 rfl) ?_
    refine xa_rld hc hw 20 0 (x_c a) rfl (Nat.zero_lt_one) ((x_ix hP.1 hP.2 hS (by omega)).1) (Nat.lt_of_lt_of_le (x_ix hP.1 hP.2 hS (by omega)).2 hS0) ((x_ix hP.1 hP.2 hS (by omega)).2) dX6_shellNumbered_30 ?_
    exact xr_xr hc hlocks hr hw (⟨(x_ix hP.1 hP.2 hS (by omega)).2, rfl, hP⟩) (Nat.le_of_ble_eq_true rfl) (Nat.le_of_ble_eq_true rfl) dX6_shellNumbered_31
  · exact xk_NW hl0 hc hout hlocks hw (is := 277) (text := "no such shell") (by decide +kernel) (⟨rfl, fun q => x_if0 hr_8 c_11 ((x_wm hS (by omega)).mpr q)⟩) dX6_shellNumbered_14 dX6_shellNumbered_17 dX6_shellNumbered_18 dX6_shellNumbered_21 dX6_shellNumbered_24 hl.1 ⟨by decide, Nat.le_of_ble_eq_true rfl, by decide, by decide⟩ (by decide) (by decide)
/-- X6_buttonNumbered -/
def q_X6_buttonNumbered (σ : x_St) (a : Int32) (nB : Nat) : Nat → Prop := fun j => j < nB ∧ j = x_c a ∧ (0 ≤ a ∧ a < σ 6 0 3)
set_option maxHeartbeats 4000000 in
set_option maxRecDepth 100000 in
theorem c_X6_buttonNumbered {l : Launch} {D : va_G} {cs : Nat → ClassId} {base : Nat} {ad : Nat → Nat → Nat} {nS nB nC nO : Nat} {σ : x_St} (hl0 : l.stackTraces = false) (a : Int32) (hB : σ 6 0 3 = nI nB) (hB0 : nB ≤ 400) : x_Xr l yX6_buttonNumbered cX6_buttonNumbered 2 (some (.object "ButtonWorks$Button")) 8 1 6 D cs base ad (x_n nS nB nC nO) (x_s nS nB nC nO nS nC) σ [.ref (ad 6 0), .int a] 0 (q_X6_buttonNumbered σ a nB) (fun E => E = x_nse ∧ ¬ (0 ≤ a ∧ a < σ 6 0 3)) := by
  refine vx_ofW (cc := cX6_buttonNumbered) (maxL := 2) (ret := some (.object "ButtonWorks$Button")) (by decide) rfl ?_
  intro p e s m args below meth c s₁ B hml hout hv
  obtain ⟨rfl, hU⟩ := hv
  have hx := B.exec
  have hb := B.bytes
  have hr := B.returns
  have hts := atoms_spec (ws := Cond.code yX6_buttonNumbered cX6_buttonNumbered 2 (some (.object "ButtonWorks$Button")) :: Tw) B.pre
  have hown : s.vm.findClass RX6 = some m.cls := findClass_of_methodNamed B.named
  have hlocks := B.notSynchronized
  have hc : CallFix p m c cX6_buttonNumbered 2 s (([.ref (ad 6 0), .int a] : List Value).toArray) Tw RX6 := ⟨hx, hb, hml, hown, fun w hw => hts w (List.mem_cons_of_mem _ hw)⟩
  have hw := x_B.start hU
  have hl := lv_entry ([.ref (ad 6 0), .int a]) (n := 2) (Nat.le_of_ble_eq_true rfl)
  rw [lg_entry_eq]
  generalize (lg_sl ([.ref (ad 6 0), .int a]) ++ List.replicate (2 - (lg_sl ([.ref (ad 6 0), .int a])).length) Slot.unset).toArray = ls at hl ⊢
  have hl : lv_has ls 2 [(0, .ref (ad 6 0)), (1, .int a)] := hl
  show W p l e (x_rm 8 1 6) s m ([.ref (ad 6 0), .int a] : List Value).toArray below meth c s.heap [] 0 0 (vx_MQ below (va_Qr (q_X6_buttonNumbered σ a nB) (fun i a t => a = ad 0 i ∧ x_U D cs base ad (x_n nS nB nC nO) (x_s nS nB nC nO nS nC) σ t) (x_A base)) (x_XC D cs base ad (x_n nS nB nC nO) (x_s nS nB nC nO nS nC) σ (fun E => E = x_nse ∧ ¬ (0 ≤ a ∧ a < σ 6 0 3))) ([.ref (ad 6 0), .int a] : List Value).toArray s 1 6 (x_A base)) (F0 m 0 ls [])
  refine lv_iload_n hx hb dX6_buttonNumbered_0 rfl (lv_at hl 1 rfl) ?_
  refine lv_iconst (v := 0) hx hb dX6_buttonNumbered_1 (by decide) ?_
  refine lv_aload_n hx hb dX6_buttonNumbered_2 rfl (lv_at hl 0 rfl) ?_
  refine xg_i hc hw 6 0 3 rfl rfl rfl rfl (by decide) (Nat.zero_lt_one) mw_82 dX6_buttonNumbered_3 ?_
  refine lv_iconst (v := 1) hx hb dX6_buttonNumbered_6 (by decide) ?_
  refine lv_isub hx hb dX6_buttonNumbered_7 ?_
  refine xc_Si hc hw (c_X6_isWithin a 0 ((σ 6 0 3) - 1)) mw_128 mw_126 mw_1 mw_127 xd_X6_isWithin ⟨by decide, by decide⟩ (rfl) hl.1 (Nat.le_of_ble_eq_true rfl) dX6_buttonNumbered_8 ⟨Nat.le_of_ble_eq_true rfl, Nat.le_of_ble_eq_true rfl⟩ (fun r_8 σ_8 H locs hq hw => ?_)
  obtain ⟨hσ_8, hr_8⟩ := hq
  rw [hσ_8] at hw
  refine lv_if_ne (tgt := 25) hx hb dX6_buttonNumbered_11 (by decide) (fun c_11 => ?_) (fun c_11 => ?_)
  · have hP := (x_wm hB (by omega)).mp (x_if1 hr_8 c_11)
    refine lv_aload_n hx hb dX6_buttonNumbered_25 rfl (lv_at hl 0 rfl) ?_
    refine xg_r hc hw 6 0 2 rfl rfl rfl rfl (by decide) (Nat.zero_lt_one) (Nat.zero_lt_one) mw_81 dX6_buttonNumbered_26 ?_
    refine lv_iload_n hx hb dX6_buttonNumbered_29 rfl (lv_at hl 1 rfl) ?_
    refine xa_rld hc hw 21 0 (x_c a) rfl (Nat.zero_lt_one) ((x_ix hP.1 hP.2 hB (by omega)).1) (Nat.lt_of_lt_of_le (x_ix hP.1 hP.2 hB (by omega)).2 hB0) ((x_ix hP.1 hP.2 hB (by omega)).2) dX6_buttonNumbered_30 ?_
    exact xr_xr hc hlocks hr hw (⟨(x_ix hP.1 hP.2 hB (by omega)).2, rfl, hP⟩) (Nat.le_of_ble_eq_true rfl) (Nat.le_of_ble_eq_true rfl) dX6_buttonNumbered_31
  · exact xk_NW hl0 hc hout hlocks hw (is := 279) (text := "no such button") (by decide +kernel) (⟨rfl, fun q => x_if0 hr_8 c_11 ((x_wm hB (by omega)).mpr q)⟩) dX6_buttonNumbered_14 dX6_buttonNumbered_17 dX6_buttonNumbered_18 dX6_buttonNumbered_21 dX6_buttonNumbered_24 hl.1 ⟨by decide, Nat.le_of_ble_eq_true rfl, by decide, by decide⟩ (by decide) (by decide)
/-- X6_cardNumbered -/
def q_X6_cardNumbered (σ : x_St) (a : Int32) (nC : Nat) : Nat → Prop := fun j => j < nC ∧ j = x_c a ∧ (0 ≤ a ∧ a < σ 6 0 6)
set_option maxHeartbeats 4000000 in
set_option maxRecDepth 100000 in
theorem c_X6_cardNumbered {l : Launch} {D : va_G} {cs : Nat → ClassId} {base : Nat} {ad : Nat → Nat → Nat} {nS nB nC nO : Nat} {σ : x_St} (hl0 : l.stackTraces = false) (a : Int32) (hC : σ 6 0 6 = nI nC) (hC0 : nC ≤ 30) : x_Xr l yX6_cardNumbered cX6_cardNumbered 2 (some (.object "ButtonWorks$Card")) 8 1 6 D cs base ad (x_n nS nB nC nO) (x_s nS nB nC nO nS nC) σ [.ref (ad 6 0), .int a] 1 (q_X6_cardNumbered σ a nC) (fun E => E = x_nse ∧ ¬ (0 ≤ a ∧ a < σ 6 0 6)) := by
  refine vx_ofW (cc := cX6_cardNumbered) (maxL := 2) (ret := some (.object "ButtonWorks$Card")) (by decide) rfl ?_
  intro p e s m args below meth c s₁ B hml hout hv
  obtain ⟨rfl, hU⟩ := hv
  have hx := B.exec
  have hb := B.bytes
  have hr := B.returns
  have hts := atoms_spec (ws := Cond.code yX6_cardNumbered cX6_cardNumbered 2 (some (.object "ButtonWorks$Card")) :: Tw) B.pre
  have hown : s.vm.findClass RX6 = some m.cls := findClass_of_methodNamed B.named
  have hlocks := B.notSynchronized
  have hc : CallFix p m c cX6_cardNumbered 2 s (([.ref (ad 6 0), .int a] : List Value).toArray) Tw RX6 := ⟨hx, hb, hml, hown, fun w hw => hts w (List.mem_cons_of_mem _ hw)⟩
  have hw := x_B.start hU
  have hl := lv_entry ([.ref (ad 6 0), .int a]) (n := 2) (Nat.le_of_ble_eq_true rfl)
  rw [lg_entry_eq]
  generalize (lg_sl ([.ref (ad 6 0), .int a]) ++ List.replicate (2 - (lg_sl ([.ref (ad 6 0), .int a])).length) Slot.unset).toArray = ls at hl ⊢
  have hl : lv_has ls 2 [(0, .ref (ad 6 0)), (1, .int a)] := hl
  show W p l e (x_rm 8 1 6) s m ([.ref (ad 6 0), .int a] : List Value).toArray below meth c s.heap [] 0 0 (vx_MQ below (va_Qr (q_X6_cardNumbered σ a nC) (fun i a t => a = ad 1 i ∧ x_U D cs base ad (x_n nS nB nC nO) (x_s nS nB nC nO nS nC) σ t) (x_A base)) (x_XC D cs base ad (x_n nS nB nC nO) (x_s nS nB nC nO nS nC) σ (fun E => E = x_nse ∧ ¬ (0 ≤ a ∧ a < σ 6 0 6))) ([.ref (ad 6 0), .int a] : List Value).toArray s 1 6 (x_A base)) (F0 m 0 ls [])
  refine lv_iload_n hx hb dX6_cardNumbered_0 rfl (lv_at hl 1 rfl) ?_
  refine lv_iconst (v := 0) hx hb dX6_cardNumbered_1 (by decide) ?_
  refine lv_aload_n hx hb dX6_cardNumbered_2 rfl (lv_at hl 0 rfl) ?_
  refine xg_i hc hw 6 0 6 rfl rfl rfl rfl (by decide) (Nat.zero_lt_one) mw_85 dX6_cardNumbered_3 ?_
  refine lv_iconst (v := 1) hx hb dX6_cardNumbered_6 (by decide) ?_
  refine lv_isub hx hb dX6_cardNumbered_7 ?_
  refine xc_Si hc hw (c_X6_isWithin a 0 ((σ 6 0 6) - 1)) mw_128 mw_126 mw_1 mw_127 xd_X6_isWithin ⟨by decide, by decide⟩ (rfl) hl.1 (Nat.le_of_ble_eq_true rfl) dX6_cardNumbered_8 ⟨Nat.le_of_ble_eq_true rfl, Nat.le_of_ble_eq_true rfl⟩ (fun r_8 σ_8 H locs hq hw => ?_)
  obtain ⟨hσ_8, hr_8⟩ := hq
  rw [hσ_8] at hw
  refine lv_if_ne (tgt := 25) hx hb dX6_cardNumbered_11 (by decide) (fun c_11 => ?_) (fun c_11 => ?_)
  · have hP := (x_wm hC (by omega)).mp (x_if1 hr_8 c_11)
    refine lv_aload_n hx hb dX6_cardNumbered_25 rfl (lv_at hl 0 rfl) ?_
    refine xg_r hc hw 6 0 5 rfl rfl rfl rfl (by decide) (Nat.zero_lt_one) (Nat.zero_lt_one) mw_84 dX6_cardNumbered_26 ?_
    refine lv_iload_n hx hb dX6_cardNumbered_29 rfl (lv_at hl 1 rfl) ?_
    refine xa_rld hc hw 23 0 (x_c a) rfl (Nat.zero_lt_one) ((x_ix hP.1 hP.2 hC (by omega)).1) (Nat.lt_of_lt_of_le (x_ix hP.1 hP.2 hC (by omega)).2 hC0) ((x_ix hP.1 hP.2 hC (by omega)).2) dX6_cardNumbered_30 ?_
    exact xr_xr hc hlocks hr hw (⟨(x_ix hP.1 hP.2 hC (by omega)).2, rfl, hP⟩) (Nat.le_of_ble_eq_true rfl) (Nat.le_of_ble_eq_true rfl) dX6_cardNumbered_31
  · exact xk_NW hl0 hc hout hlocks hw (is := 283) (text := "no such card") (by decide +kernel) (⟨rfl, fun q => x_if0 hr_8 c_11 ((x_wm hC (by omega)).mpr q)⟩) dX6_cardNumbered_14 dX6_cardNumbered_17 dX6_cardNumbered_18 dX6_cardNumbered_21 dX6_cardNumbered_24 hl.1 ⟨by decide, Nat.le_of_ble_eq_true rfl, by decide, by decide⟩ (by decide) (by decide)
/-- X6_machineNumbered -/
def q_X6_machineNumbered (a : Int32) : Nat → Prop := fun j => j < 6 ∧ j = x_c a ∧ (0 ≤ a ∧ a ≤ 5)
set_option maxHeartbeats 4000000 in
set_option maxRecDepth 100000 in
theorem c_X6_machineNumbered {l : Launch} {D : va_G} {cs : Nat → ClassId} {base : Nat} {ad : Nat → Nat → Nat} {nS nB nC nO : Nat} {σ : x_St} (hl0 : l.stackTraces = false) (a : Int32) : x_Xr l yX6_machineNumbered cX6_machineNumbered 2 (some (.object "ButtonWorks$Machine")) 8 1 6 D cs base ad (x_n nS nB nC nO) (x_s nS nB nC nO nS nC) σ [.ref (ad 6 0), .int a] 3 (q_X6_machineNumbered a) (fun E => E = x_nse ∧ ¬ (0 ≤ a ∧ a ≤ 5)) := by
  refine vx_ofW (cc := cX6_machineNumbered) (maxL := 2) (ret := some (.object "ButtonWorks$Machine")) (by decide) rfl ?_
  intro p e s m args below meth c s₁ B hml hout hv
  obtain ⟨rfl, hU⟩ := hv
  have hx := B.exec
  have hb := B.bytes
  have hr := B.returns
  have hts := atoms_spec (ws := Cond.code yX6_machineNumbered cX6_machineNumbered 2 (some (.object "ButtonWorks$Machine")) :: Tw) B.pre
  have hown : s.vm.findClass RX6 = some m.cls := findClass_of_methodNamed B.named
  have hlocks := B.notSynchronized
  have hc : CallFix p m c cX6_machineNumbered 2 s (([.ref (ad 6 0), .int a] : List Value).toArray) Tw RX6 := ⟨hx, hb, hml, hown, fun w hw => hts w (List.mem_cons_of_mem _ hw)⟩
  have hw := x_B.start hU
  have hl := lv_entry ([.ref (ad 6 0), .int a]) (n := 2) (Nat.le_of_ble_eq_true rfl)
  rw [lg_entry_eq]
  generalize (lg_sl ([.ref (ad 6 0), .int a]) ++ List.replicate (2 - (lg_sl ([.ref (ad 6 0), .int a])).length) Slot.unset).toArray = ls at hl ⊢
  have hl : lv_has ls 2 [(0, .ref (ad 6 0)), (1, .int a)] := hl
  show W p l e (x_rm 8 1 6) s m ([.ref (ad 6 0), .int a] : List Value).toArray below meth c s.heap [] 0 0 (vx_MQ below (va_Qr (q_X6_machineNumbered a) (fun i a t => a = ad 3 i ∧ x_U D cs base ad (x_n nS nB nC nO) (x_s nS nB nC nO nS nC) σ t) (x_A base)) (x_XC D cs base ad (x_n nS nB nC nO) (x_s nS nB nC nO nS nC) σ (fun E => E = x_nse ∧ ¬ (0 ≤ a ∧ a ≤ 5))) ([.ref (ad 6 0), .int a] : List Value).toArray s 1 6 (x_A base)) (F0 m 0 ls [])
  refine lv_iload_n hx hb dX6_machineNumbered_0 rfl (lv_at hl 1 rfl) ?_
  refine lv_iconst (v := 0) hx hb dX6_machineNumbered_1 (by decide) ?_
  refine lv_iconst (v := 5) hx hb dX6_machineNumbered_2 (by decide) ?_
  refine xc_Si hc hw (c_X6_isWithin a 0 5) mw_128 mw_126 mw_1 mw_127 xd_X6_isWithin ⟨by decide, by decide⟩ (rfl) hl.1 (Nat.le_of_ble_eq_true rfl) dX6_machineNumbered_3 ⟨Nat.le_of_ble_eq_true rfl, Nat.le_of_ble_eq_true rfl⟩ (fun r_3 σ_3 H locs hq hw => ?_)
  obtain ⟨hσ_3, hr_3⟩ := hq
  rw [hσ_3] at hw
  refine lv_if_ne (tgt := 20) hx hb dX6_machineNumbered_6 (by decide) (fun c_6 => ?_) (fun c_6 => ?_)
  · have hP := x_if1 hr_3 c_6
    refine lv_aload_n hx hb dX6_machineNumbered_20 rfl (lv_at hl 0 rfl) ?_
    refine xg_r hc hw 6 0 4 rfl rfl rfl rfl (by decide) (Nat.zero_lt_one) (Nat.zero_lt_one) mw_83 dX6_machineNumbered_21 ?_
    refine lv_iload_n hx hb dX6_machineNumbered_24 rfl (lv_at hl 1 rfl) ?_
    refine xa_rld hc hw 22 0 (x_c a) rfl (Nat.zero_lt_one) ((x_ixle hP.1 hP.2 (N := 5) rfl (by decide)).1) (Nat.lt_succ_of_le (x_ixle hP.1 hP.2 (N := 5) rfl (by decide)).2) (Nat.lt_succ_of_le (x_ixle hP.1 hP.2 (N := 5) rfl (by decide)).2) dX6_machineNumbered_25 ?_
    exact xr_xr hc hlocks hr hw (⟨Nat.lt_succ_of_le (x_ixle hP.1 hP.2 (N := 5) rfl (by decide)).2, rfl, hP⟩) (Nat.le_of_ble_eq_true rfl) (Nat.le_of_ble_eq_true rfl) dX6_machineNumbered_26
  · exact xk_NW hl0 hc hout hlocks hw (is := 281) (text := "no such machine") (by decide +kernel) (⟨rfl, x_if0 hr_3 c_6⟩) dX6_machineNumbered_9 dX6_machineNumbered_12 dX6_machineNumbered_13 dX6_machineNumbered_16 dX6_machineNumbered_19 hl.1 ⟨by decide, Nat.le_of_ble_eq_true rfl, by decide, by decide⟩ (by decide) (by decide)
/-- X6_shellOf -/
def q_X6_shellOf (σ : x_St) (a b : Int32) : Int32 → x_St → Prop := fun r σ' => σ' = σ ∧ ((0 ≤ a ∧ a < σ 6 0 1) ∧ 0 ≤ b ∧ b ≤ 3) ∧ r = if b = 0 then σ 5 (x_c a) 0 else if b = 1 then σ 5 (x_c a) 1 else if b = 2 then σ 5 (x_c a) 2 else if σ 5 (x_c a) 4 = 0 then 0 else 1
set_option maxHeartbeats 4000000 in
set_option maxRecDepth 100000 in
theorem c_X6_shellOf {l : Launch} {D : va_G} {cs : Nat → ClassId} {base : Nat} {ad : Nat → Nat → Nat} {nS nB nC nO : Nat} {σ : x_St} (hl0 : l.stackTraces = false) (a b : Int32) (hS : σ 6 0 1 = nI nS) (hS0 : nS ≤ 30) : x_Xi l yX6_shellOf cX6_shellOf 4 (some .int) 10 2 12 D cs base ad (x_n nS nB nC nO) (x_s nS nB nC nO nS nC) σ [.ref (ad 6 0), .int a, .int b] (q_X6_shellOf σ a b) (fun σ' => x_U D cs base ad (x_n nS nB nC nO) (x_s nS nB nC nO nS nC) σ') (fun E => E = x_nse ∧ ¬ ((0 ≤ a ∧ a < σ 6 0 1) ∧ 0 ≤ b ∧ b ≤ 3)) := by
  refine vx_ofW (cc := cX6_shellOf) (maxL := 4) (ret := some .int) (by decide) rfl ?_
  intro p e s m args below meth c s₁ B hml hout hv
  obtain ⟨rfl, hU⟩ := hv
  have hx := B.exec
  have hb := B.bytes
  have hr := B.returns
  have hts := atoms_spec (ws := Cond.code yX6_shellOf cX6_shellOf 4 (some .int) :: Tw) B.pre
  have hown : s.vm.findClass RX6 = some m.cls := findClass_of_methodNamed B.named
  have hlocks := B.notSynchronized
  have hc : CallFix p m c cX6_shellOf 4 s (([.ref (ad 6 0), .int a, .int b] : List Value).toArray) Tw RX6 := ⟨hx, hb, hml, hown, fun w hw => hts w (List.mem_cons_of_mem _ hw)⟩
  have hw := x_B.start hU
  have hl := lv_entry ([.ref (ad 6 0), .int a, .int b]) (n := 4) (Nat.le_of_ble_eq_true rfl)
  rw [lg_entry_eq]
  generalize (lg_sl ([.ref (ad 6 0), .int a, .int b]) ++ List.replicate (4 - (lg_sl ([.ref (ad 6 0), .int a, .int b])).length) Slot.unset).toArray = ls at hl ⊢
  have hl : lv_has ls 4 [(0, .ref (ad 6 0)), (1, .int a), (2, .int b)] := hl
  show W p l e (x_rm 10 2 12) s m ([.ref (ad 6 0), .int a, .int b] : List Value).toArray below meth c s.heap [] 0 0 (vx_MQ below (va_Qi (q_X6_shellOf σ a b) (fun σ' => x_U D cs base ad (x_n nS nB nC nO) (x_s nS nB nC nO nS nC) σ') (x_A base)) (x_XC D cs base ad (x_n nS nB nC nO) (x_s nS nB nC nO nS nC) σ (fun E => E = x_nse ∧ ¬ ((0 ≤ a ∧ a < σ 6 0 1) ∧ 0 ≤ b ∧ b ≤ 3))) ([.ref (ad 6 0), .int a, .int b] : List Value).toArray s 2 12 (x_A base)) (F0 m 0 ls [])
  refine lv_aload_n hx hb dX6_shellOf_0 rfl (lv_at hl 0 rfl) ?_
  refine lv_iload_n hx hb dX6_shellOf_1 rfl (lv_at hl 1 rfl) ?_
  refine xc_Xr hc hw 6 0 (c_X6_shellNumbered hl0 a hS hS0) rfl rfl (Nat.zero_lt_one) mw_242 mw_239 mw_1 mw_241 mp_1 xd_X6_shellNumbered ⟨by decide, by decide⟩ (rfl) hl.1 (Nat.le_of_ble_eq_true rfl) dX6_shellOf_2 ⟨Nat.le_of_ble_eq_true rfl, Nat.le_of_ble_eq_true rfl⟩ (fun E ce q9 H locs hp hw hq1 hq2 hq3 => ?_) (fun j_2 H locs hq hw => ?_)
  · exact xo_out hout hlocks hw (⟨hp.1, fun q => hp.2 q.1⟩) hq1 hq2 hq3 (Nat.le_of_ble_eq_true rfl) (Nat.le_of_ble_eq_true rfl)
  have hq_2 := hq
  obtain ⟨hj1, hj2, hj3⟩ := hq_2
  subst hj2
  refine lv_astore_n (lv' := [(3, .ref (ad 5 (x_c a))), (0, .ref (ad 6 0)), (1, .int a), (2, .int b)]) hx hb dX6_shellOf_5 rfl hl (by decide) rfl (fun ls hl => ?_)
  refine lv_iload_n hx hb dX6_shellOf_6 rfl (lv_at hl 3 rfl) ?_
  rcases x_sw b 4 (by decide) with hsw | ⟨jsw, hjsw, hsw⟩
  · refine lv_tableOut (tgt := 64) hx hb dX6_shellOf_7 (x_swo hsw) (by decide) ?_
    exact xk_N hl0 hc hout hlocks hw (is := 103) (text := "a shell has no such thing") (by decide +kernel) (⟨rfl, fun q => x_swbad hsw (by decide) q.2⟩) dX6_shellOf_64 dX6_shellOf_67 dX6_shellOf_68 dX6_shellOf_70 dX6_shellOf_73 hl.1 ⟨by decide, Nat.le_of_ble_eq_true rfl, by decide, by decide⟩ (by decide) (by decide)
  · rcases (by omega : jsw = 0 ∨ jsw = 1 ∨ jsw = 2 ∨ jsw = 3) with rfl | rfl | rfl | rfl
    · refine lv_tableIn (tgt := 36) (off := 29) hx hb dX6_shellOf_7 (x_swl hsw) (x_swh hsw (by decide)) (by rw [x_swn hsw (by decide)]; rfl) (by decide) ?_
      refine lv_aload_n hx hb dX6_shellOf_36 rfl (lv_at hl 0 rfl) ?_
      refine xg_i hc hw 5 (x_c a) 0 rfl rfl rfl rfl (by decide) (hj1) mw_135 dX6_shellOf_37 ?_
      exact xr_xi hc hlocks hr rfl hw (⟨rfl, ⟨hj3, (x_swgood hsw (by decide) (by decide))⟩, by rw [hsw]; rfl⟩) (Nat.le_of_ble_eq_true rfl) (Nat.le_of_ble_eq_true rfl) dX6_shellOf_40
    · refine lv_tableIn (tgt := 41) (off := 34) hx hb dX6_shellOf_7 (x_swl hsw) (x_swh hsw (by decide)) (by rw [x_swn hsw (by decide)]; rfl) (by decide) ?_
      refine lv_aload_n hx hb dX6_shellOf_41 rfl (lv_at hl 0 rfl) ?_
      refine xg_i hc hw 5 (x_c a) 1 rfl rfl rfl rfl (by decide) (hj1) mw_138 dX6_shellOf_42 ?_
      exact xr_xi hc hlocks hr rfl hw (⟨rfl, ⟨hj3, (x_swgood hsw (by decide) (by decide))⟩, by rw [hsw]; rfl⟩) (Nat.le_of_ble_eq_true rfl) (Nat.le_of_ble_eq_true rfl) dX6_shellOf_45
    · refine lv_tableIn (tgt := 46) (off := 39) hx hb dX6_shellOf_7 (x_swl hsw) (x_swh hsw (by decide)) (by rw [x_swn hsw (by decide)]; rfl) (by decide) ?_
      refine lv_aload_n hx hb dX6_shellOf_46 rfl (lv_at hl 0 rfl) ?_
      refine xg_i hc hw 5 (x_c a) 2 rfl rfl rfl rfl (by decide) (hj1) mw_141 dX6_shellOf_47 ?_
      exact xr_xi hc hlocks hr rfl hw (⟨rfl, ⟨hj3, (x_swgood hsw (by decide) (by decide))⟩, by rw [hsw]; rfl⟩) (Nat.le_of_ble_eq_true rfl) (Nat.le_of_ble_eq_true rfl) dX6_shellOf_50
    · refine lv_tableIn (tgt := 51) (off := 44) hx hb dX6_shellOf_7 (x_swl hsw) (x_swh hsw (by decide)) (by rw [x_swn hsw (by decide)]; rfl) (by decide) ?_
      refine lv_aload_n hx hb dX6_shellOf_51 rfl (lv_at hl 0 rfl) ?_
      refine xg_i hc hw 5 (x_c a) 4 rfl rfl rfl rfl (by decide) (hj1) mw_144 dX6_shellOf_52 ?_
      refine lv_if_eq (tgt := 62) hx hb dX6_shellOf_55 (by decide) (fun c_55 => ?_) (fun c_55 => ?_)
      · refine lv_iconst (v := 0) hx hb dX6_shellOf_62 (by decide) ?_
        exact xr_xi hc hlocks hr rfl hw (⟨rfl, ⟨hj3, (x_swgood hsw (by decide) (by decide))⟩, by rw [hsw]; simp [c_55]; rfl⟩) (Nat.le_of_ble_eq_true rfl) (Nat.le_of_ble_eq_true rfl) dX6_shellOf_63
      · refine lv_iconst (v := 1) hx hb dX6_shellOf_58 (by decide) ?_
        refine lv_goto (tgt := 63) hx hb dX6_shellOf_59 (by decide) ?_
        exact xr_xi hc hlocks hr rfl hw (⟨rfl, ⟨hj3, (x_swgood hsw (by decide) (by decide))⟩, by rw [hsw]; simp [c_55]; rfl⟩) (Nat.le_of_ble_eq_true rfl) (Nat.le_of_ble_eq_true rfl) dX6_shellOf_63
/-- X6_button -/
def q_X6_button (σ : x_St) (a b : Int32) : Int32 → x_St → Prop := fun r σ' => σ' = σ ∧ ((0 ≤ a ∧ a < σ 6 0 3) ∧ 0 ≤ b ∧ b ≤ 8) ∧ r = σ 0 (x_c a) (f_bf (x_c b))
set_option maxHeartbeats 4000000 in
set_option maxRecDepth 100000 in
theorem c_X6_button {l : Launch} {D : va_G} {cs : Nat → ClassId} {base : Nat} {ad : Nat → Nat → Nat} {nS nB nC nO : Nat} {σ : x_St} (hl0 : l.stackTraces = false) (a b : Int32) (hB : σ 6 0 3 = nI nB) (hB0 : nB ≤ 400) : x_Xi l yX6_button cX6_button 4 (some .int) 10 2 12 D cs base ad (x_n nS nB nC nO) (x_s nS nB nC nO nS nC) σ [.ref (ad 6 0), .int a, .int b] (q_X6_button σ a b) (fun σ' => x_U D cs base ad (x_n nS nB nC nO) (x_s nS nB nC nO nS nC) σ') (fun E => E = x_nse ∧ ¬ ((0 ≤ a ∧ a < σ 6 0 3) ∧ 0 ≤ b ∧ b ≤ 8)) := by
  refine vx_ofW (cc := cX6_button) (maxL := 4) (ret := some .int) (by decide) rfl ?_
  intro p e s m args below meth c s₁ B hml hout hv
  obtain ⟨rfl, hU⟩ := hv
  have hx := B.exec
  have hb := B.bytes
  have hr := B.returns
  have hts := atoms_spec (ws := Cond.code yX6_button cX6_button 4 (some .int) :: Tw) B.pre
  have hown : s.vm.findClass RX6 = some m.cls := findClass_of_methodNamed B.named
  have hlocks := B.notSynchronized
  have hc : CallFix p m c cX6_button 4 s (([.ref (ad 6 0), .int a, .int b] : List Value).toArray) Tw RX6 := ⟨hx, hb, hml, hown, fun w hw => hts w (List.mem_cons_of_mem _ hw)⟩
  have hw := x_B.start hU
  have hl := lv_entry ([.ref (ad 6 0), .int a, .int b]) (n := 4) (Nat.le_of_ble_eq_true rfl)
  rw [lg_entry_eq]
  generalize (lg_sl ([.ref (ad 6 0), .int a, .int b]) ++ List.replicate (4 - (lg_sl ([.ref (ad 6 0), .int a, .int b])).length) Slot.unset).toArray = ls at hl ⊢
  have hl : lv_has ls 4 [(0, .ref (ad 6 0)), (1, .int a), (2, .int b)] := hl
  show W p l e (x_rm 10 2 12) s m ([.ref (ad 6 0), .int a, .int b] : List Value).toArray below meth c s.heap [] 0 0 (vx_MQ below (va_Qi (q_X6_button σ a b) (fun σ' => x_U D cs base ad (x_n nS nB nC nO) (x_s nS nB nC nO nS nC) σ') (x_A base)) (x_XC D cs base ad (x_n nS nB nC nO) (x_s nS nB nC nO nS nC) σ (fun E => E = x_nse ∧ ¬ ((0 ≤ a ∧ a < σ 6 0 3) ∧ 0 ≤ b ∧ b ≤ 8))) ([.ref (ad 6 0), .int a, .int b] : List Value).toArray s 2 12 (x_A base)) (F0 m 0 ls [])
  refine lv_aload_n hx hb dX6_button_0 rfl (lv_at hl 0 rfl) ?_
  refine lv_iload_n hx hb dX6_button_1 rfl (lv_at hl 1 rfl) ?_
  refine xc_Xr hc hw 6 0 (c_X6_buttonNumbered hl0 a hB hB0) rfl rfl (Nat.zero_lt_one) mw_470 mw_467 mw_1 mw_469 mp_10 xd_X6_buttonNumbered ⟨by decide, by decide⟩ (rfl) hl.1 (Nat.le_of_ble_eq_true rfl) dX6_button_2 ⟨Nat.le_of_ble_eq_true rfl, Nat.le_of_ble_eq_true rfl⟩ (fun E ce q9 H locs hp hw hq1 hq2 hq3 => ?_) (fun j_2 H locs hq hw => ?_)
  · exact xo_out hout hlocks hw (⟨hp.1, fun q => hp.2 q.1⟩) hq1 hq2 hq3 (Nat.le_of_ble_eq_true rfl) (Nat.le_of_ble_eq_true rfl)
  have hq_2 := hq
  obtain ⟨hj1, hj2, hj3⟩ := hq_2
  subst hj2
  refine lv_astore_n (lv' := [(3, .ref (ad 0 (x_c a))), (0, .ref (ad 6 0)), (1, .int a), (2, .int b)]) hx hb dX6_button_5 rfl hl (by decide) rfl (fun ls hl => ?_)
  refine lv_iload_n hx hb dX6_button_6 rfl (lv_at hl 3 rfl) ?_
  rcases x_sw b 9 (by decide) with hsw | ⟨jsw, hjsw, hsw⟩
  · refine lv_tableOut (tgt := 101) hx hb dX6_button_7 (x_swo hsw) (by decide) ?_
    exact xk_N hl0 hc hout hlocks hw (is := 171) (text := "a button has no such thing") (by decide +kernel) (⟨rfl, fun q => x_swbad hsw (by decide) q.2⟩) dX6_button_101 dX6_button_104 dX6_button_105 dX6_button_107 dX6_button_110 hl.1 ⟨by decide, Nat.le_of_ble_eq_true rfl, by decide, by decide⟩ (by decide) (by decide)
  · rcases (by omega : jsw = 0 ∨ jsw = 1 ∨ jsw = 2 ∨ jsw = 3 ∨ jsw = 4 ∨ jsw = 5 ∨ jsw = 6 ∨ jsw = 7 ∨ jsw = 8) with rfl | rfl | rfl | rfl | rfl | rfl | rfl | rfl | rfl
    · refine lv_tableIn (tgt := 56) (off := 49) hx hb dX6_button_7 (x_swl hsw) (x_swh hsw (by decide)) (by rw [x_swn hsw (by decide)]; rfl) (by decide) ?_
      refine lv_aload_n hx hb dX6_button_56 rfl (lv_at hl 0 rfl) ?_
      refine xg_i hc hw 0 (x_c a) 0 rfl rfl rfl rfl (by decide) (hj1) mw_424 dX6_button_57 ?_
      exact xr_xi hc hlocks hr rfl hw (⟨rfl, ⟨hj3, (x_swgood hsw (by decide) (by decide))⟩, by rw [hsw]; rfl⟩) (Nat.le_of_ble_eq_true rfl) (Nat.le_of_ble_eq_true rfl) dX6_button_60
    · refine lv_tableIn (tgt := 61) (off := 54) hx hb dX6_button_7 (x_swl hsw) (x_swh hsw (by decide)) (by rw [x_swn hsw (by decide)]; rfl) (by decide) ?_
      refine lv_aload_n hx hb dX6_button_61 rfl (lv_at hl 0 rfl) ?_
      refine xg_i hc hw 0 (x_c a) 1 rfl rfl rfl rfl (by decide) (hj1) mw_426 dX6_button_62 ?_
      exact xr_xi hc hlocks hr rfl hw (⟨rfl, ⟨hj3, (x_swgood hsw (by decide) (by decide))⟩, by rw [hsw]; rfl⟩) (Nat.le_of_ble_eq_true rfl) (Nat.le_of_ble_eq_true rfl) dX6_button_65
    · refine lv_tableIn (tgt := 66) (off := 59) hx hb dX6_button_7 (x_swl hsw) (x_swh hsw (by decide)) (by rw [x_swn hsw (by decide)]; rfl) (by decide) ?_
      refine lv_aload_n hx hb dX6_button_66 rfl (lv_at hl 0 rfl) ?_
      refine xg_i hc hw 0 (x_c a) 2 rfl rfl rfl rfl (by decide) (hj1) mw_428 dX6_button_67 ?_
      exact xr_xi hc hlocks hr rfl hw (⟨rfl, ⟨hj3, (x_swgood hsw (by decide) (by decide))⟩, by rw [hsw]; rfl⟩) (Nat.le_of_ble_eq_true rfl) (Nat.le_of_ble_eq_true rfl) dX6_button_70
    · refine lv_tableIn (tgt := 71) (off := 64) hx hb dX6_button_7 (x_swl hsw) (x_swh hsw (by decide)) (by rw [x_swn hsw (by decide)]; rfl) (by decide) ?_
      refine lv_aload_n hx hb dX6_button_71 rfl (lv_at hl 0 rfl) ?_
      refine xg_i hc hw 0 (x_c a) 3 rfl rfl rfl rfl (by decide) (hj1) mw_430 dX6_button_72 ?_
      exact xr_xi hc hlocks hr rfl hw (⟨rfl, ⟨hj3, (x_swgood hsw (by decide) (by decide))⟩, by rw [hsw]; rfl⟩) (Nat.le_of_ble_eq_true rfl) (Nat.le_of_ble_eq_true rfl) dX6_button_75
    · refine lv_tableIn (tgt := 76) (off := 69) hx hb dX6_button_7 (x_swl hsw) (x_swh hsw (by decide)) (by rw [x_swn hsw (by decide)]; rfl) (by decide) ?_
      refine lv_aload_n hx hb dX6_button_76 rfl (lv_at hl 0 rfl) ?_
      refine xg_i hc hw 0 (x_c a) 5 rfl rfl rfl rfl (by decide) (hj1) mw_434 dX6_button_77 ?_
      exact xr_xi hc hlocks hr rfl hw (⟨rfl, ⟨hj3, (x_swgood hsw (by decide) (by decide))⟩, by rw [hsw]; rfl⟩) (Nat.le_of_ble_eq_true rfl) (Nat.le_of_ble_eq_true rfl) dX6_button_80
    · refine lv_tableIn (tgt := 81) (off := 74) hx hb dX6_button_7 (x_swl hsw) (x_swh hsw (by decide)) (by rw [x_swn hsw (by decide)]; rfl) (by decide) ?_
      refine lv_aload_n hx hb dX6_button_81 rfl (lv_at hl 0 rfl) ?_
      refine xg_i hc hw 0 (x_c a) 6 rfl rfl rfl rfl (by decide) (hj1) mw_436 dX6_button_82 ?_
      exact xr_xi hc hlocks hr rfl hw (⟨rfl, ⟨hj3, (x_swgood hsw (by decide) (by decide))⟩, by rw [hsw]; rfl⟩) (Nat.le_of_ble_eq_true rfl) (Nat.le_of_ble_eq_true rfl) dX6_button_85
    · refine lv_tableIn (tgt := 86) (off := 79) hx hb dX6_button_7 (x_swl hsw) (x_swh hsw (by decide)) (by rw [x_swn hsw (by decide)]; rfl) (by decide) ?_
      refine lv_aload_n hx hb dX6_button_86 rfl (lv_at hl 0 rfl) ?_
      refine xg_i hc hw 0 (x_c a) 7 rfl rfl rfl rfl (by decide) (hj1) mw_438 dX6_button_87 ?_
      exact xr_xi hc hlocks hr rfl hw (⟨rfl, ⟨hj3, (x_swgood hsw (by decide) (by decide))⟩, by rw [hsw]; rfl⟩) (Nat.le_of_ble_eq_true rfl) (Nat.le_of_ble_eq_true rfl) dX6_button_90
    · refine lv_tableIn (tgt := 91) (off := 84) hx hb dX6_button_7 (x_swl hsw) (x_swh hsw (by decide)) (by rw [x_swn hsw (by decide)]; rfl) (by decide) ?_
      refine lv_aload_n hx hb dX6_button_91 rfl (lv_at hl 0 rfl) ?_
      refine xg_i hc hw 0 (x_c a) 8 rfl rfl rfl rfl (by decide) (hj1) mw_440 dX6_button_92 ?_
      exact xr_xi hc hlocks hr rfl hw (⟨rfl, ⟨hj3, (x_swgood hsw (by decide) (by decide))⟩, by rw [hsw]; rfl⟩) (Nat.le_of_ble_eq_true rfl) (Nat.le_of_ble_eq_true rfl) dX6_button_95
    · refine lv_tableIn (tgt := 96) (off := 89) hx hb dX6_button_7 (x_swl hsw) (x_swh hsw (by decide)) (by rw [x_swn hsw (by decide)]; rfl) (by decide) ?_
      refine lv_aload_n hx hb dX6_button_96 rfl (lv_at hl 0 rfl) ?_
      refine xg_i hc hw 0 (x_c a) 4 rfl rfl rfl rfl (by decide) (hj1) mw_432 dX6_button_97 ?_
      exact xr_xi hc hlocks hr rfl hw (⟨rfl, ⟨hj3, (x_swgood hsw (by decide) (by decide))⟩, by rw [hsw]; rfl⟩) (Nat.le_of_ble_eq_true rfl) (Nat.le_of_ble_eq_true rfl) dX6_button_100
/-- X6_machine -/
def q_X6_machine (σ : x_St) (a b : Int32) : Int32 → x_St → Prop := fun r σ' => σ' = σ ∧ ((0 ≤ a ∧ a ≤ 5) ∧ 0 ≤ b ∧ b ≤ 3) ∧ r = if b = 0 then σ 3 (x_c a) 0 else if b = 1 then σ 3 (x_c a) 1 else if b = 2 then σ 3 (x_c a) 2 else σ 3 (x_c a) 3
set_option maxHeartbeats 4000000 in
set_option maxRecDepth 100000 in
theorem c_X6_machine {l : Launch} {D : va_G} {cs : Nat → ClassId} {base : Nat} {ad : Nat → Nat → Nat} {nS nB nC nO : Nat} {σ : x_St} (hl0 : l.stackTraces = false) (a b : Int32)  : x_Xi l yX6_machine cX6_machine 4 (some .int) 10 2 12 D cs base ad (x_n nS nB nC nO) (x_s nS nB nC nO nS nC) σ [.ref (ad 6 0), .int a, .int b] (q_X6_machine σ a b) (fun σ' => x_U D cs base ad (x_n nS nB nC nO) (x_s nS nB nC nO nS nC) σ') (fun E => E = x_nse ∧ ¬ ((0 ≤ a ∧ a ≤ 5) ∧ 0 ≤ b ∧ b ≤ 3)) := by
  refine vx_ofW (cc := cX6_machine) (maxL := 4) (ret := some .int) (by decide) rfl ?_
  intro p e s m args below meth c s₁ B hml hout hv
  obtain ⟨rfl, hU⟩ := hv
  have hx := B.exec
  have hb := B.bytes
  have hr := B.returns
  have hts := atoms_spec (ws := Cond.code yX6_machine cX6_machine 4 (some .int) :: Tw) B.pre
  have hown : s.vm.findClass RX6 = some m.cls := findClass_of_methodNamed B.named
  have hlocks := B.notSynchronized
  have hc : CallFix p m c cX6_machine 4 s (([.ref (ad 6 0), .int a, .int b] : List Value).toArray) Tw RX6 := ⟨hx, hb, hml, hown, fun w hw => hts w (List.mem_cons_of_mem _ hw)⟩
  have hw := x_B.start hU
  have hl := lv_entry ([.ref (ad 6 0), .int a, .int b]) (n := 4) (Nat.le_of_ble_eq_true rfl)
  rw [lg_entry_eq]
  generalize (lg_sl ([.ref (ad 6 0), .int a, .int b]) ++ List.replicate (4 - (lg_sl ([.ref (ad 6 0), .int a, .int b])).length) Slot.unset).toArray = ls at hl ⊢
  have hl : lv_has ls 4 [(0, .ref (ad 6 0)), (1, .int a), (2, .int b)] := hl
  show W p l e (x_rm 10 2 12) s m ([.ref (ad 6 0), .int a, .int b] : List Value).toArray below meth c s.heap [] 0 0 (vx_MQ below (va_Qi (q_X6_machine σ a b) (fun σ' => x_U D cs base ad (x_n nS nB nC nO) (x_s nS nB nC nO nS nC) σ') (x_A base)) (x_XC D cs base ad (x_n nS nB nC nO) (x_s nS nB nC nO nS nC) σ (fun E => E = x_nse ∧ ¬ ((0 ≤ a ∧ a ≤ 5) ∧ 0 ≤ b ∧ b ≤ 3))) ([.ref (ad 6 0), .int a, .int b] : List Value).toArray s 2 12 (x_A base)) (F0 m 0 ls [])
  refine lv_aload_n hx hb dX6_machine_0 rfl (lv_at hl 0 rfl) ?_
  refine lv_iload_n hx hb dX6_machine_1 rfl (lv_at hl 1 rfl) ?_
  refine xc_Xr hc hw 6 0 (c_X6_machineNumbered hl0 a) rfl rfl (Nat.zero_lt_one) mw_483 mw_480 mw_1 mw_482 mp_11 xd_X6_machineNumbered ⟨by decide, by decide⟩ (rfl) hl.1 (Nat.le_of_ble_eq_true rfl) dX6_machine_2 ⟨Nat.le_of_ble_eq_true rfl, Nat.le_of_ble_eq_true rfl⟩ (fun E ce q9 H locs hp hw hq1 hq2 hq3 => ?_) (fun j_2 H locs hq hw => ?_)
  · exact xo_out hout hlocks hw (⟨hp.1, fun q => hp.2 q.1⟩) hq1 hq2 hq3 (Nat.le_of_ble_eq_true rfl) (Nat.le_of_ble_eq_true rfl)
  have hq_2 := hq
  obtain ⟨hj1, hj2, hj3⟩ := hq_2
  subst hj2
  refine lv_astore_n (lv' := [(3, .ref (ad 3 (x_c a))), (0, .ref (ad 6 0)), (1, .int a), (2, .int b)]) hx hb dX6_machine_5 rfl hl (by decide) rfl (fun ls hl => ?_)
  refine lv_iload_n hx hb dX6_machine_6 rfl (lv_at hl 3 rfl) ?_
  rcases x_sw b 4 (by decide) with hsw | ⟨jsw, hjsw, hsw⟩
  · refine lv_tableOut (tgt := 56) hx hb dX6_machine_7 (x_swo hsw) (by decide) ?_
    exact xk_N hl0 hc hout hlocks hw (is := 203) (text := "a machine has no such thing") (by decide +kernel) (⟨rfl, fun q => x_swbad hsw (by decide) q.2⟩) dX6_machine_56 dX6_machine_59 dX6_machine_60 dX6_machine_62 dX6_machine_65 hl.1 ⟨by decide, Nat.le_of_ble_eq_true rfl, by decide, by decide⟩ (by decide) (by decide)
  · rcases (by omega : jsw = 0 ∨ jsw = 1 ∨ jsw = 2 ∨ jsw = 3) with rfl | rfl | rfl | rfl
    · refine lv_tableIn (tgt := 36) (off := 29) hx hb dX6_machine_7 (x_swl hsw) (x_swh hsw (by decide)) (by rw [x_swn hsw (by decide)]; rfl) (by decide) ?_
      refine lv_aload_n hx hb dX6_machine_36 rfl (lv_at hl 0 rfl) ?_
      refine xg_i hc hw 3 (x_c a) 0 rfl rfl rfl rfl (by decide) (hj1) mw_63 dX6_machine_37 ?_
      exact xr_xi hc hlocks hr rfl hw (⟨rfl, ⟨hj3, (x_swgood hsw (by decide) (by decide))⟩, by rw [hsw]; rfl⟩) (Nat.le_of_ble_eq_true rfl) (Nat.le_of_ble_eq_true rfl) dX6_machine_40
    · refine lv_tableIn (tgt := 41) (off := 34) hx hb dX6_machine_7 (x_swl hsw) (x_swh hsw (by decide)) (by rw [x_swn hsw (by decide)]; rfl) (by decide) ?_
      refine lv_aload_n hx hb dX6_machine_41 rfl (lv_at hl 0 rfl) ?_
      refine xg_i hc hw 3 (x_c a) 1 rfl rfl rfl rfl (by decide) (hj1) mw_65 dX6_machine_42 ?_
      exact xr_xi hc hlocks hr rfl hw (⟨rfl, ⟨hj3, (x_swgood hsw (by decide) (by decide))⟩, by rw [hsw]; rfl⟩) (Nat.le_of_ble_eq_true rfl) (Nat.le_of_ble_eq_true rfl) dX6_machine_45
    · refine lv_tableIn (tgt := 46) (off := 39) hx hb dX6_machine_7 (x_swl hsw) (x_swh hsw (by decide)) (by rw [x_swn hsw (by decide)]; rfl) (by decide) ?_
      refine lv_aload_n hx hb dX6_machine_46 rfl (lv_at hl 0 rfl) ?_
      refine xg_i hc hw 3 (x_c a) 2 rfl rfl rfl rfl (by decide) (hj1) mw_67 dX6_machine_47 ?_
      exact xr_xi hc hlocks hr rfl hw (⟨rfl, ⟨hj3, (x_swgood hsw (by decide) (by decide))⟩, by rw [hsw]; rfl⟩) (Nat.le_of_ble_eq_true rfl) (Nat.le_of_ble_eq_true rfl) dX6_machine_50
    · refine lv_tableIn (tgt := 51) (off := 44) hx hb dX6_machine_7 (x_swl hsw) (x_swh hsw (by decide)) (by rw [x_swn hsw (by decide)]; rfl) (by decide) ?_
      refine lv_aload_n hx hb dX6_machine_51 rfl (lv_at hl 0 rfl) ?_
      refine xg_i hc hw 3 (x_c a) 3 rfl rfl rfl rfl (by decide) (hj1) mw_69 dX6_machine_52 ?_
      exact xr_xi hc hlocks hr rfl hw (⟨rfl, ⟨hj3, (x_swgood hsw (by decide) (by decide))⟩, by rw [hsw]; rfl⟩) (Nat.le_of_ble_eq_true rfl) (Nat.le_of_ble_eq_true rfl) dX6_machine_55
/-- X6_cardOf -/
def q_X6_cardOf (σ : x_St) (a b : Int32) : Int32 → x_St → Prop := fun r σ' => σ' = σ ∧ ((0 ≤ a ∧ a < σ 6 0 6) ∧ 0 ≤ b ∧ b ≤ 5) ∧ r = if b = 0 then σ 1 (x_c a) 0 else if b = 1 then σ 1 (x_c a) 1 else if b = 2 then σ 1 (x_c a) 2 else if b = 3 then σ 1 (x_c a) 4 else if b = 4 then σ 1 (x_c a) 5 else σ 1 (x_c a) 6
set_option maxHeartbeats 4000000 in
set_option maxRecDepth 100000 in
theorem c_X6_cardOf {l : Launch} {D : va_G} {cs : Nat → ClassId} {base : Nat} {ad : Nat → Nat → Nat} {nS nB nC nO : Nat} {σ : x_St} (hl0 : l.stackTraces = false) (a b : Int32) (hC : σ 6 0 6 = nI nC) (hC0 : nC ≤ 30) : x_Xi l yX6_cardOf cX6_cardOf 4 (some .int) 10 2 12 D cs base ad (x_n nS nB nC nO) (x_s nS nB nC nO nS nC) σ [.ref (ad 6 0), .int a, .int b] (q_X6_cardOf σ a b) (fun σ' => x_U D cs base ad (x_n nS nB nC nO) (x_s nS nB nC nO nS nC) σ') (fun E => E = x_nse ∧ ¬ ((0 ≤ a ∧ a < σ 6 0 6) ∧ 0 ≤ b ∧ b ≤ 5)) := by
  refine vx_ofW (cc := cX6_cardOf) (maxL := 4) (ret := some .int) (by decide) rfl ?_
  intro p e s m args below meth c s₁ B hml hout hv
  obtain ⟨rfl, hU⟩ := hv
  have hx := B.exec
  have hb := B.bytes
  have hr := B.returns
  have hts := atoms_spec (ws := Cond.code yX6_cardOf cX6_cardOf 4 (some .int) :: Tw) B.pre
  have hown : s.vm.findClass RX6 = some m.cls := findClass_of_methodNamed B.named
  have hlocks := B.notSynchronized
  have hc : CallFix p m c cX6_cardOf 4 s (([.ref (ad 6 0), .int a, .int b] : List Value).toArray) Tw RX6 := ⟨hx, hb, hml, hown, fun w hw => hts w (List.mem_cons_of_mem _ hw)⟩
  have hw := x_B.start hU
  have hl := lv_entry ([.ref (ad 6 0), .int a, .int b]) (n := 4) (Nat.le_of_ble_eq_true rfl)
  rw [lg_entry_eq]
  generalize (lg_sl ([.ref (ad 6 0), .int a, .int b]) ++ List.replicate (4 - (lg_sl ([.ref (ad 6 0), .int a, .int b])).length) Slot.unset).toArray = ls at hl ⊢
  have hl : lv_has ls 4 [(0, .ref (ad 6 0)), (1, .int a), (2, .int b)] := hl
  show W p l e (x_rm 10 2 12) s m ([.ref (ad 6 0), .int a, .int b] : List Value).toArray below meth c s.heap [] 0 0 (vx_MQ below (va_Qi (q_X6_cardOf σ a b) (fun σ' => x_U D cs base ad (x_n nS nB nC nO) (x_s nS nB nC nO nS nC) σ') (x_A base)) (x_XC D cs base ad (x_n nS nB nC nO) (x_s nS nB nC nO nS nC) σ (fun E => E = x_nse ∧ ¬ ((0 ≤ a ∧ a < σ 6 0 6) ∧ 0 ≤ b ∧ b ≤ 5))) ([.ref (ad 6 0), .int a, .int b] : List Value).toArray s 2 12 (x_A base)) (F0 m 0 ls [])
  refine lv_aload_n hx hb dX6_cardOf_0 rfl (lv_at hl 0 rfl) ?_
  refine lv_iload_n hx hb dX6_cardOf_1 rfl (lv_at hl 1 rfl) ?_
  refine xc_Xr hc hw 6 0 (c_X6_cardNumbered hl0 a hC hC0) rfl rfl (Nat.zero_lt_one) mw_628 mw_625 mw_1 mw_627 mp_16 xd_X6_cardNumbered ⟨by decide, by decide⟩ (rfl) hl.1 (Nat.le_of_ble_eq_true rfl) dX6_cardOf_2 ⟨Nat.le_of_ble_eq_true rfl, Nat.le_of_ble_eq_true rfl⟩ (fun E ce q9 H locs hp hw hq1 hq2 hq3 => ?_) (fun j_2 H locs hq hw => ?_)
  · exact xo_out hout hlocks hw (⟨hp.1, fun q => hp.2 q.1⟩) hq1 hq2 hq3 (Nat.le_of_ble_eq_true rfl) (Nat.le_of_ble_eq_true rfl)
  have hq_2 := hq
  obtain ⟨hj1, hj2, hj3⟩ := hq_2
  subst hj2
  refine lv_astore_n (lv' := [(3, .ref (ad 1 (x_c a))), (0, .ref (ad 6 0)), (1, .int a), (2, .int b)]) hx hb dX6_cardOf_5 rfl hl (by decide) rfl (fun ls hl => ?_)
  refine lv_iload_n hx hb dX6_cardOf_6 rfl (lv_at hl 3 rfl) ?_
  rcases x_sw b 6 (by decide) with hsw | ⟨jsw, hjsw, hsw⟩
  · refine lv_tableOut (tgt := 74) hx hb dX6_cardOf_7 (x_swo hsw) (by decide) ?_
    exact xk_N hl0 hc hout hlocks hw (is := 240) (text := "a card has no such thing") (by decide +kernel) (⟨rfl, fun q => x_swbad hsw (by decide) q.2⟩) dX6_cardOf_74 dX6_cardOf_77 dX6_cardOf_78 dX6_cardOf_80 dX6_cardOf_83 hl.1 ⟨by decide, Nat.le_of_ble_eq_true rfl, by decide, by decide⟩ (by decide) (by decide)
  · rcases (by omega : jsw = 0 ∨ jsw = 1 ∨ jsw = 2 ∨ jsw = 3 ∨ jsw = 4 ∨ jsw = 5) with rfl | rfl | rfl | rfl | rfl | rfl
    · refine lv_tableIn (tgt := 44) (off := 37) hx hb dX6_cardOf_7 (x_swl hsw) (x_swh hsw (by decide)) (by rw [x_swn hsw (by decide)]; rfl) (by decide) ?_
      refine lv_aload_n hx hb dX6_cardOf_44 rfl (lv_at hl 0 rfl) ?_
      refine xg_i hc hw 1 (x_c a) 0 rfl rfl rfl rfl (by decide) (hj1) mw_562 dX6_cardOf_45 ?_
      exact xr_xi hc hlocks hr rfl hw (⟨rfl, ⟨hj3, (x_swgood hsw (by decide) (by decide))⟩, by rw [hsw]; rfl⟩) (Nat.le_of_ble_eq_true rfl) (Nat.le_of_ble_eq_true rfl) dX6_cardOf_48
    · refine lv_tableIn (tgt := 49) (off := 42) hx hb dX6_cardOf_7 (x_swl hsw) (x_swh hsw (by decide)) (by rw [x_swn hsw (by decide)]; rfl) (by decide) ?_
      refine lv_aload_n hx hb dX6_cardOf_49 rfl (lv_at hl 0 rfl) ?_
      refine xg_i hc hw 1 (x_c a) 1 rfl rfl rfl rfl (by decide) (hj1) mw_566 dX6_cardOf_50 ?_
      exact xr_xi hc hlocks hr rfl hw (⟨rfl, ⟨hj3, (x_swgood hsw (by decide) (by decide))⟩, by rw [hsw]; rfl⟩) (Nat.le_of_ble_eq_true rfl) (Nat.le_of_ble_eq_true rfl) dX6_cardOf_53
    · refine lv_tableIn (tgt := 54) (off := 47) hx hb dX6_cardOf_7 (x_swl hsw) (x_swh hsw (by decide)) (by rw [x_swn hsw (by decide)]; rfl) (by decide) ?_
      refine lv_aload_n hx hb dX6_cardOf_54 rfl (lv_at hl 0 rfl) ?_
      refine xg_i hc hw 1 (x_c a) 2 rfl rfl rfl rfl (by decide) (hj1) mw_570 dX6_cardOf_55 ?_
      exact xr_xi hc hlocks hr rfl hw (⟨rfl, ⟨hj3, (x_swgood hsw (by decide) (by decide))⟩, by rw [hsw]; rfl⟩) (Nat.le_of_ble_eq_true rfl) (Nat.le_of_ble_eq_true rfl) dX6_cardOf_58
    · refine lv_tableIn (tgt := 59) (off := 52) hx hb dX6_cardOf_7 (x_swl hsw) (x_swh hsw (by decide)) (by rw [x_swn hsw (by decide)]; rfl) (by decide) ?_
      refine lv_aload_n hx hb dX6_cardOf_59 rfl (lv_at hl 0 rfl) ?_
      refine xg_i hc hw 1 (x_c a) 4 rfl rfl rfl rfl (by decide) (hj1) mw_574 dX6_cardOf_60 ?_
      exact xr_xi hc hlocks hr rfl hw (⟨rfl, ⟨hj3, (x_swgood hsw (by decide) (by decide))⟩, by rw [hsw]; rfl⟩) (Nat.le_of_ble_eq_true rfl) (Nat.le_of_ble_eq_true rfl) dX6_cardOf_63
    · refine lv_tableIn (tgt := 64) (off := 57) hx hb dX6_cardOf_7 (x_swl hsw) (x_swh hsw (by decide)) (by rw [x_swn hsw (by decide)]; rfl) (by decide) ?_
      refine lv_aload_n hx hb dX6_cardOf_64 rfl (lv_at hl 0 rfl) ?_
      refine xg_i hc hw 1 (x_c a) 5 rfl rfl rfl rfl (by decide) (hj1) mw_576 dX6_cardOf_65 ?_
      exact xr_xi hc hlocks hr rfl hw (⟨rfl, ⟨hj3, (x_swgood hsw (by decide) (by decide))⟩, by rw [hsw]; rfl⟩) (Nat.le_of_ble_eq_true rfl) (Nat.le_of_ble_eq_true rfl) dX6_cardOf_68
    · refine lv_tableIn (tgt := 69) (off := 62) hx hb dX6_cardOf_7 (x_swl hsw) (x_swh hsw (by decide)) (by rw [x_swn hsw (by decide)]; rfl) (by decide) ?_
      refine lv_aload_n hx hb dX6_cardOf_69 rfl (lv_at hl 0 rfl) ?_
      refine xg_i hc hw 1 (x_c a) 6 rfl rfl rfl rfl (by decide) (hj1) mw_579 dX6_cardOf_70 ?_
      exact xr_xi hc hlocks hr rfl hw (⟨rfl, ⟨hj3, (x_swgood hsw (by decide) (by decide))⟩, by rw [hsw]; rfl⟩) (Nat.le_of_ble_eq_true rfl) (Nat.le_of_ble_eq_true rfl) dX6_cardOf_73
/-- X6_stands -/
def q_X6_stands (σ : x_St) (a b : Int32) : Int32 → x_St → Prop := fun r σ' => σ' = x_up σ 3 (x_c a) 1 b ∧ ((0 ≤ a ∧ a ≤ 5) ∧ 1 ≤ b ∧ b ≤ 10000) ∧ r = σ 3 (x_c a) 1
set_option maxHeartbeats 4000000 in
set_option maxRecDepth 100000 in
theorem c_X6_stands {l : Launch} {D : va_G} {cs : Nat → ClassId} {base : Nat} {ad : Nat → Nat → Nat} {nS nB nC nO : Nat} {σ : x_St} (hl0 : l.stackTraces = false) (a b : Int32)  : x_Xi l yX6_stands cX6_stands 5 (some .int) 10 2 12 D cs base ad (x_n nS nB nC nO) (x_s nS nB nC nO nS nC) σ [.ref (ad 6 0), .int a, .int b] (q_X6_stands σ a b) (fun σ' => x_U D cs base ad (x_n nS nB nC nO) (x_s nS nB nC nO nS nC) σ') (fun E => (E = x_nse ∧ ¬ (0 ≤ a ∧ a ≤ 5)) ∨ (E = x_iae ∧ (0 ≤ a ∧ a ≤ 5) ∧ ¬ (1 ≤ b ∧ b ≤ 10000))) := by
  refine vx_ofW (cc := cX6_stands) (maxL := 5) (ret := some .int) (by decide) rfl ?_
  intro p e s m args below meth c s₁ B hml hout hv
  obtain ⟨rfl, hU⟩ := hv
  have hx := B.exec
  have hb := B.bytes
  have hr := B.returns
  have hts := atoms_spec (ws := Cond.code yX6_stands cX6_stands 5 (some .int) :: Tw) B.pre
  have hown : s.vm.findClass RX6 = some m.cls := findClass_of_methodNamed B.named
  have hlocks := B.notSynchronized
  have hc : CallFix p m c cX6_stands 5 s (([.ref (ad 6 0), .int a, .int b] : List Value).toArray) Tw RX6 := ⟨hx, hb, hml, hown, fun w hw => hts w (List.mem_cons_of_mem _ hw)⟩
  have hw := x_B.start hU
  have hl := lv_entry ([.ref (ad 6 0), .int a, .int b]) (n := 5) (Nat.le_of_ble_eq_true rfl)
  rw [lg_entry_eq]
  generalize (lg_sl ([.ref (ad 6 0), .int a, .int b]) ++ List.replicate (5 - (lg_sl ([.ref (ad 6 0), .int a, .int b])).length) Slot.unset).toArray = ls at hl ⊢
  have hl : lv_has ls 5 [(0, .ref (ad 6 0)), (1, .int a), (2, .int b)] := hl
  show W p l e (x_rm 10 2 12) s m ([.ref (ad 6 0), .int a, .int b] : List Value).toArray below meth c s.heap [] 0 0 (vx_MQ below (va_Qi (q_X6_stands σ a b) (fun σ' => x_U D cs base ad (x_n nS nB nC nO) (x_s nS nB nC nO nS nC) σ') (x_A base)) (x_XC D cs base ad (x_n nS nB nC nO) (x_s nS nB nC nO nS nC) σ (fun E => (E = x_nse ∧ ¬ (0 ≤ a ∧ a ≤ 5)) ∨ (E = x_iae ∧ (0 ≤ a ∧ a ≤ 5) ∧ ¬ (1 ≤ b ∧ b ≤ 10000)))) ([.ref (ad 6 0), .int a, .int b] : List Value).toArray s 2 12 (x_A base)) (F0 m 0 ls [])
  refine lv_aload_n hx hb dX6_stands_0 rfl (lv_at hl 0 rfl) ?_
  refine lv_iload_n hx hb dX6_stands_1 rfl (lv_at hl 1 rfl) ?_
  refine xc_Xr hc hw 6 0 (c_X6_machineNumbered hl0 a) rfl rfl (Nat.zero_lt_one) mw_483 mw_480 mw_1 mw_482 mp_11 xd_X6_machineNumbered ⟨by decide, by decide⟩ (rfl) hl.1 (Nat.le_of_ble_eq_true rfl) dX6_stands_2 ⟨Nat.le_of_ble_eq_true rfl, Nat.le_of_ble_eq_true rfl⟩ (fun E ce q9 H locs hp hw hq1 hq2 hq3 => ?_) (fun j_2 H locs hq hw => ?_)
  · exact xo_out hout hlocks hw (Or.inl hp) hq1 hq2 hq3 (Nat.le_of_ble_eq_true rfl) (Nat.le_of_ble_eq_true rfl)
  have hq_2 := hq
  obtain ⟨hj1, hj2, hj3⟩ := hq_2
  subst hj2
  refine lv_astore_n (lv' := [(3, .ref (ad 3 (x_c a))), (0, .ref (ad 6 0)), (1, .int a), (2, .int b)]) hx hb dX6_stands_5 rfl hl (by decide) rfl (fun ls hl => ?_)
  refine lv_iload_n hx hb dX6_stands_6 rfl (lv_at hl 3 rfl) ?_
  refine lv_iconst (v := 1) hx hb dX6_stands_7 (by decide) ?_
  refine lv_sipush (v := 10000) hx hb dX6_stands_8 (by decide) ?_
  refine xc_Si hc hw (c_X6_isWithin b 1 10000) mw_128 mw_126 mw_1 mw_127 xd_X6_isWithin ⟨by decide, by decide⟩ (rfl) hl.1 (Nat.le_of_ble_eq_true rfl) dX6_stands_11 ⟨Nat.le_of_ble_eq_true rfl, Nat.le_of_ble_eq_true rfl⟩ (fun r_11 σ_11 H locs hq hw => ?_)
  obtain ⟨hσ_11, hr_11⟩ := hq
  rw [hσ_11] at hw
  refine lv_if_ne (tgt := 27) hx hb dX6_stands_14 (by decide) (fun c_14 => ?_) (fun c_14 => ?_)
  · refine lv_aload_n hx hb dX6_stands_27 rfl (lv_at hl 0 rfl) ?_
    refine xg_i hc hw 3 (x_c a) 1 rfl rfl rfl rfl (by decide) (hj1) mw_65 dX6_stands_28 ?_
    refine lv_topi (fun x4_31 ex4_31 => ?_)
    refine lv_istore (lv' := [(4, .int x4_31), (3, .ref (ad 3 (x_c a))), (0, .ref (ad 6 0)), (1, .int a), (2, .int b)]) hx hb dX6_stands_31 hl (by decide) rfl (fun ls hl => ?_)
    refine lv_aload_n hx hb dX6_stands_33 rfl (lv_at hl 1 rfl) ?_
    refine lv_iload_n hx hb dX6_stands_34 rfl (lv_at hl 4 rfl) ?_
    refine xp_i hc hw 3 (x_c a) 1 rfl rfl rfl rfl (by decide) (hj1) rfl (ty := .int) (by decide +kernel) rfl rfl mw_65 dX6_stands_35 (fun H locs hw => ?_)
    refine lv_iload hx hb dX6_stands_38 (lv_at hl 0 rfl) ?_
    exact xr_xi hc hlocks hr rfl hw (⟨rfl, ⟨hj3, x_if1 hr_11 c_14⟩, ex4_31⟩) (Nat.le_of_ble_eq_true rfl) (Nat.le_of_ble_eq_true rfl) dX6_stands_40
  · exact xk_I hl0 hc hout hlocks hw (is := 177) (text := "no machine stands so much") (by decide +kernel) (Or.inr ⟨rfl, hj3, x_if0 hr_11 c_14⟩) dX6_stands_17 dX6_stands_20 dX6_stands_21 dX6_stands_23 dX6_stands_26 hl.1 ⟨by decide, Nat.le_of_ble_eq_true rfl, by decide, by decide⟩ (by decide) (by decide)
/-- X6_grind -/
def q_X6_grind (σ : x_St) (a : Int32) : Int32 → x_St → Prop := fun r σ' => σ' = x_up σ 3 (x_c a) 0 0 ∧ (0 ≤ a ∧ a ≤ 5) ∧ r = σ 3 (x_c a) 0
set_option maxHeartbeats 4000000 in
set_option maxRecDepth 100000 in
theorem c_X6_grind {l : Launch} {D : va_G} {cs : Nat → ClassId} {base : Nat} {ad : Nat → Nat → Nat} {nS nB nC nO : Nat} {σ : x_St} (hl0 : l.stackTraces = false) (a : Int32) : x_Xi l yX6_grind cX6_grind 4 (some .int) 10 1 6 D cs base ad (x_n nS nB nC nO) (x_s nS nB nC nO nS nC) σ [.ref (ad 6 0), .int a] (q_X6_grind σ a) (fun σ' => x_U D cs base ad (x_n nS nB nC nO) (x_s nS nB nC nO nS nC) σ') (fun E => E = x_nse ∧ ¬ (0 ≤ a ∧ a ≤ 5)) := by
  refine vx_ofW (cc := cX6_grind) (maxL := 4) (ret := some .int) (by decide) rfl ?_
  intro p e s m args below meth c s₁ B hml hout hv
  obtain ⟨rfl, hU⟩ := hv
  have hx := B.exec
  have hb := B.bytes
  have hr := B.returns
  have hts := atoms_spec (ws := Cond.code yX6_grind cX6_grind 4 (some .int) :: Tw) B.pre
  have hown : s.vm.findClass RX6 = some m.cls := findClass_of_methodNamed B.named
  have hlocks := B.notSynchronized
  have hc : CallFix p m c cX6_grind 4 s (([.ref (ad 6 0), .int a] : List Value).toArray) Tw RX6 := ⟨hx, hb, hml, hown, fun w hw => hts w (List.mem_cons_of_mem _ hw)⟩
  have hw := x_B.start hU
  have hl := lv_entry ([.ref (ad 6 0), .int a]) (n := 4) (Nat.le_of_ble_eq_true rfl)
  rw [lg_entry_eq]
  generalize (lg_sl ([.ref (ad 6 0), .int a]) ++ List.replicate (4 - (lg_sl ([.ref (ad 6 0), .int a])).length) Slot.unset).toArray = ls at hl ⊢
  have hl : lv_has ls 4 [(0, .ref (ad 6 0)), (1, .int a)] := hl
  show W p l e (x_rm 10 1 6) s m ([.ref (ad 6 0), .int a] : List Value).toArray below meth c s.heap [] 0 0 (vx_MQ below (va_Qi (q_X6_grind σ a) (fun σ' => x_U D cs base ad (x_n nS nB nC nO) (x_s nS nB nC nO nS nC) σ') (x_A base)) (x_XC D cs base ad (x_n nS nB nC nO) (x_s nS nB nC nO nS nC) σ (fun E => E = x_nse ∧ ¬ (0 ≤ a ∧ a ≤ 5))) ([.ref (ad 6 0), .int a] : List Value).toArray s 1 6 (x_A base)) (F0 m 0 ls [])
  refine lv_aload_n hx hb dX6_grind_0 rfl (lv_at hl 0 rfl) ?_
  refine lv_iload_n hx hb dX6_grind_1 rfl (lv_at hl 1 rfl) ?_
  refine xc_Xr hc hw 6 0 (c_X6_machineNumbered hl0 a) rfl rfl (Nat.zero_lt_one) mw_483 mw_480 mw_1 mw_482 mp_11 xd_X6_machineNumbered ⟨by decide, by decide⟩ (rfl) hl.1 (Nat.le_of_ble_eq_true rfl) dX6_grind_2 ⟨Nat.le_of_ble_eq_true rfl, Nat.le_of_ble_eq_true rfl⟩ (fun E ce q9 H locs hp hw hq1 hq2 hq3 => ?_) (fun j_2 H locs hq hw => ?_)
  · exact xo_out hout hlocks hw (hp) hq1 hq2 hq3 (Nat.le_of_ble_eq_true rfl) (Nat.le_of_ble_eq_true rfl)
  have hq_2 := hq
  obtain ⟨hj1, hj2, hj3⟩ := hq_2
  subst hj2
  refine lv_astore_n (lv' := [(2, .ref (ad 3 (x_c a))), (0, .ref (ad 6 0)), (1, .int a)]) hx hb dX6_grind_5 rfl hl (by decide) rfl (fun ls hl => ?_)
  refine lv_aload_n hx hb dX6_grind_6 rfl (lv_at hl 0 rfl) ?_
  refine xg_i hc hw 3 (x_c a) 0 rfl rfl rfl rfl (by decide) (hj1) mw_63 dX6_grind_7 ?_
  refine lv_topi (fun x3_10 ex3_10 => ?_)
  refine lv_istore_n (lv' := [(3, .int x3_10), (2, .ref (ad 3 (x_c a))), (0, .ref (ad 6 0)), (1, .int a)]) hx hb dX6_grind_10 rfl hl (by decide) rfl (fun ls hl => ?_)
  refine lv_aload_n hx hb dX6_grind_11 rfl (lv_at hl 1 rfl) ?_
  refine lv_iconst (v := 0) hx hb dX6_grind_12 (by decide) ?_
  refine xp_i hc hw 3 (x_c a) 0 rfl rfl rfl rfl (by decide) (hj1) rfl (ty := .int) (by decide +kernel) rfl rfl mw_63 dX6_grind_13 (fun H locs hw => ?_)
  refine lv_iload_n hx hb dX6_grind_16 rfl (lv_at hl 0 rfl) ?_
  exact xr_xi hc hlocks hr rfl hw (⟨rfl, hj3, ex3_10⟩) (Nat.le_of_ble_eq_true rfl) (Nat.le_of_ble_eq_true rfl) dX6_grind_17
/-- X6_onCard -/
def q_X6_onCard (σ : x_St) (a b : Int32) : Int32 → x_St → Prop := fun r σ' => σ' = σ ∧ ((0 ≤ a ∧ a < σ 6 0 6) ∧ 0 ≤ b ∧ b ≤ 11) ∧ r = σ 10 (x_c a) (x_c b)
set_option maxHeartbeats 4000000 in
set_option maxRecDepth 100000 in
theorem c_X6_onCard {l : Launch} {D : va_G} {cs : Nat → ClassId} {base : Nat} {ad : Nat → Nat → Nat} {nS nB nC nO : Nat} {σ : x_St} (hl0 : l.stackTraces = false) (a b : Int32) (hC : σ 6 0 6 = nI nC) (hC0 : nC ≤ 30) : x_Xi l yX6_onCard cX6_onCard 4 (some .int) 10 2 12 D cs base ad (x_n nS nB nC nO) (x_s nS nB nC nO nS nC) σ [.ref (ad 6 0), .int a, .int b] (q_X6_onCard σ a b) (fun σ' => x_U D cs base ad (x_n nS nB nC nO) (x_s nS nB nC nO nS nC) σ') (fun E => E = x_nse ∧ ¬ ((0 ≤ a ∧ a < σ 6 0 6) ∧ 0 ≤ b ∧ b ≤ 11)) := by
  refine vx_ofW (cc := cX6_onCard) (maxL := 4) (ret := some .int) (by decide) rfl ?_
  intro p e s m args below meth c s₁ B hml hout hv
  obtain ⟨rfl, hU⟩ := hv
  have hx := B.exec
  have hb := B.bytes
  have hr := B.returns
  have hts := atoms_spec (ws := Cond.code yX6_onCard cX6_onCard 4 (some .int) :: Tw) B.pre
  have hown : s.vm.findClass RX6 = some m.cls := findClass_of_methodNamed B.named
  have hlocks := B.notSynchronized
  have hc : CallFix p m c cX6_onCard 4 s (([.ref (ad 6 0), .int a, .int b] : List Value).toArray) Tw RX6 := ⟨hx, hb, hml, hown, fun w hw => hts w (List.mem_cons_of_mem _ hw)⟩
  have hw := x_B.start hU
  have hl := lv_entry ([.ref (ad 6 0), .int a, .int b]) (n := 4) (Nat.le_of_ble_eq_true rfl)
  rw [lg_entry_eq]
  generalize (lg_sl ([.ref (ad 6 0), .int a, .int b]) ++ List.replicate (4 - (lg_sl ([.ref (ad 6 0), .int a, .int b])).length) Slot.unset).toArray = ls at hl ⊢
  have hl : lv_has ls 4 [(0, .ref (ad 6 0)), (1, .int a), (2, .int b)] := hl
  show W p l e (x_rm 10 2 12) s m ([.ref (ad 6 0), .int a, .int b] : List Value).toArray below meth c s.heap [] 0 0 (vx_MQ below (va_Qi (q_X6_onCard σ a b) (fun σ' => x_U D cs base ad (x_n nS nB nC nO) (x_s nS nB nC nO nS nC) σ') (x_A base)) (x_XC D cs base ad (x_n nS nB nC nO) (x_s nS nB nC nO nS nC) σ (fun E => E = x_nse ∧ ¬ ((0 ≤ a ∧ a < σ 6 0 6) ∧ 0 ≤ b ∧ b ≤ 11))) ([.ref (ad 6 0), .int a, .int b] : List Value).toArray s 2 12 (x_A base)) (F0 m 0 ls [])
  refine lv_aload_n hx hb dX6_onCard_0 rfl (lv_at hl 0 rfl) ?_
  refine lv_iload_n hx hb dX6_onCard_1 rfl (lv_at hl 1 rfl) ?_
  refine xc_Xr hc hw 6 0 (c_X6_cardNumbered hl0 a hC hC0) rfl rfl (Nat.zero_lt_one) mw_628 mw_625 mw_1 mw_627 mp_16 xd_X6_cardNumbered ⟨by decide, by decide⟩ (rfl) hl.1 (Nat.le_of_ble_eq_true rfl) dX6_onCard_2 ⟨Nat.le_of_ble_eq_true rfl, Nat.le_of_ble_eq_true rfl⟩ (fun E ce q9 H locs hp hw hq1 hq2 hq3 => ?_) (fun j_2 H locs hq hw => ?_)
  · exact xo_out hout hlocks hw (⟨hp.1, fun q => hp.2 q.1⟩) hq1 hq2 hq3 (Nat.le_of_ble_eq_true rfl) (Nat.le_of_ble_eq_true rfl)
  have hq_2 := hq
  obtain ⟨hj1, hj2, hj3⟩ := hq_2
  subst hj2
  refine lv_astore_n (lv' := [(3, .ref (ad 1 (x_c a))), (0, .ref (ad 6 0)), (1, .int a), (2, .int b)]) hx hb dX6_onCard_5 rfl hl (by decide) rfl (fun ls hl => ?_)
  refine lv_iload_n hx hb dX6_onCard_6 rfl (lv_at hl 3 rfl) ?_
  refine lv_iconst (v := 0) hx hb dX6_onCard_7 (by decide) ?_
  refine lv_bipush (v := 11) hx hb dX6_onCard_8 (by decide) ?_
  refine xc_Si hc hw (c_X6_isWithin b 0 11) mw_128 mw_126 mw_1 mw_127 xd_X6_isWithin ⟨by decide, by decide⟩ (rfl) hl.1 (Nat.le_of_ble_eq_true rfl) dX6_onCard_10 ⟨Nat.le_of_ble_eq_true rfl, Nat.le_of_ble_eq_true rfl⟩ (fun r_10 σ_10 H locs hq hw => ?_)
  obtain ⟨hσ_10, hr_10⟩ := hq
  rw [hσ_10] at hw
  refine lv_if_ne (tgt := 26) hx hb dX6_onCard_13 (by decide) (fun c_13 => ?_) (fun c_13 => ?_)
  · have hQ := x_if1 hr_10 c_13
    refine lv_aload_n hx hb dX6_onCard_26 rfl (lv_at hl 0 rfl) ?_
    refine xg_r hc hw 1 (x_c a) 3 rfl rfl rfl rfl (by decide) (hj1) (hj1) mw_572 dX6_onCard_27 ?_
    refine lv_iload_n hx hb dX6_onCard_30 rfl (lv_at hl 3 rfl) ?_
    refine xa_ld hc hw 10 (x_c a) (x_c b) rfl (hj1) ((x_ixle hQ.1 hQ.2 (N := 11) rfl (by decide)).1) (Nat.lt_succ_of_le (x_ixle hQ.1 hQ.2 (N := 11) rfl (by decide)).2) dX6_onCard_31 ?_
    exact xr_xi hc hlocks hr rfl hw (⟨rfl, ⟨hj3, hQ⟩, rfl⟩) (Nat.le_of_ble_eq_true rfl) (Nat.le_of_ble_eq_true rfl) dX6_onCard_32
  · exact xk_N hl0 hc hout hlocks hw (is := 242) (text := "a card has twelve buttons") (by decide +kernel) (⟨rfl, fun q => x_if0 hr_10 c_13 q.2⟩) dX6_onCard_16 dX6_onCard_19 dX6_onCard_20 dX6_onCard_22 dX6_onCard_25 hl.1 ⟨by decide, Nat.le_of_ble_eq_true rfl, by decide, by decide⟩ (by decide) (by decide)
/-- X6_sent -/
def q_X6_sent (σ : x_St) (a : Int32) : Int32 → x_St → Prop := fun r σ' => σ' = σ ∧ (0 ≤ a ∧ a < σ 6 0 8) ∧ r = σ 4 (x_c a) 7
set_option maxHeartbeats 4000000 in
set_option maxRecDepth 100000 in
theorem c_X6_sent {l : Launch} {D : va_G} {cs : Nat → ClassId} {base : Nat} {ad : Nat → Nat → Nat} {nS nB nC nO : Nat} {σ : x_St} (hl0 : l.stackTraces = false) (a : Int32) (hO : σ 6 0 8 = nI nO) (hO0 : nO ≤ 30) : x_Xi l yX6_sent cX6_sent 2 (some .int) 8 1 6 D cs base ad (x_n nS nB nC nO) (x_s nS nB nC nO nS nC) σ [.ref (ad 6 0), .int a] (q_X6_sent σ a) (fun σ' => x_U D cs base ad (x_n nS nB nC nO) (x_s nS nB nC nO nS nC) σ') (fun E => E = x_nse ∧ ¬ (0 ≤ a ∧ a < σ 6 0 8)) := by
  refine vx_ofW (cc := cX6_sent) (maxL := 2) (ret := some .int) (by decide) rfl ?_
  intro p e s m args below meth c s₁ B hml hout hv
  obtain ⟨rfl, hU⟩ := hv
  have hx := B.exec
  have hb := B.bytes
  have hr := B.returns
  have hts := atoms_spec (ws := Cond.code yX6_sent cX6_sent 2 (some .int) :: Tw) B.pre
  have hown : s.vm.findClass RX6 = some m.cls := findClass_of_methodNamed B.named
  have hlocks := B.notSynchronized
  have hc : CallFix p m c cX6_sent 2 s (([.ref (ad 6 0), .int a] : List Value).toArray) Tw RX6 := ⟨hx, hb, hml, hown, fun w hw => hts w (List.mem_cons_of_mem _ hw)⟩
  have hw := x_B.start hU
  have hl := lv_entry ([.ref (ad 6 0), .int a]) (n := 2) (Nat.le_of_ble_eq_true rfl)
  rw [lg_entry_eq]
  generalize (lg_sl ([.ref (ad 6 0), .int a]) ++ List.replicate (2 - (lg_sl ([.ref (ad 6 0), .int a])).length) Slot.unset).toArray = ls at hl ⊢
  have hl : lv_has ls 2 [(0, .ref (ad 6 0)), (1, .int a)] := hl
  show W p l e (x_rm 8 1 6) s m ([.ref (ad 6 0), .int a] : List Value).toArray below meth c s.heap [] 0 0 (vx_MQ below (va_Qi (q_X6_sent σ a) (fun σ' => x_U D cs base ad (x_n nS nB nC nO) (x_s nS nB nC nO nS nC) σ') (x_A base)) (x_XC D cs base ad (x_n nS nB nC nO) (x_s nS nB nC nO nS nC) σ (fun E => E = x_nse ∧ ¬ (0 ≤ a ∧ a < σ 6 0 8))) ([.ref (ad 6 0), .int a] : List Value).toArray s 1 6 (x_A base)) (F0 m 0 ls [])
  refine lv_iload_n hx hb dX6_sent_0 rfl (lv_at hl 1 rfl) ?_
  refine lv_iconst (v := 0) hx hb dX6_sent_1 (by decide) ?_
  refine lv_aload_n hx hb dX6_sent_2 rfl (lv_at hl 0 rfl) ?_
  refine xg_i hc hw 6 0 8 rfl rfl rfl rfl (by decide) (Nat.zero_lt_one) mw_87 dX6_sent_3 ?_
  refine lv_iconst (v := 1) hx hb dX6_sent_6 (by decide) ?_
  refine lv_isub hx hb dX6_sent_7 ?_
  refine xc_Si hc hw (c_X6_isWithin a 0 ((σ 6 0 8) - 1)) mw_128 mw_126 mw_1 mw_127 xd_X6_isWithin ⟨by decide, by decide⟩ (rfl) hl.1 (Nat.le_of_ble_eq_true rfl) dX6_sent_8 ⟨Nat.le_of_ble_eq_true rfl, Nat.le_of_ble_eq_true rfl⟩ (fun r_8 σ_8 H locs hq hw => ?_)
  obtain ⟨hσ_8, hr_8⟩ := hq
  rw [hσ_8] at hw
  refine lv_if_ne (tgt := 25) hx hb dX6_sent_11 (by decide) (fun c_11 => ?_) (fun c_11 => ?_)
  · have hP := (x_wm hO (by omega)).mp (x_if1 hr_8 c_11)
    refine lv_aload_n hx hb dX6_sent_25 rfl (lv_at hl 0 rfl) ?_
    refine xg_r hc hw 6 0 7 rfl rfl rfl rfl (by decide) (Nat.zero_lt_one) (Nat.zero_lt_one) mw_86 dX6_sent_26 ?_
    refine lv_iload_n hx hb dX6_sent_29 rfl (lv_at hl 1 rfl) ?_
    refine xa_rld hc hw 24 0 (x_c a) rfl (Nat.zero_lt_one) ((x_ix hP.1 hP.2 hO (by omega)).1) (Nat.lt_of_lt_of_le (x_ix hP.1 hP.2 hO (by omega)).2 hO0) ((x_ix hP.1 hP.2 hO (by omega)).2) dX6_sent_30 ?_
    refine xg_i hc hw 4 (x_c a) 7 rfl rfl rfl rfl (by decide) ((x_ix hP.1 hP.2 hO (by omega)).2) mw_209 dX6_sent_31 ?_
    exact xr_xi hc hlocks hr rfl hw (⟨rfl, hP, rfl⟩) (Nat.le_of_ble_eq_true rfl) (Nat.le_of_ble_eq_true rfl) dX6_sent_34
  · exact xk_NW hl0 hc hout hlocks hw (is := 273) (text := "no such order") (by decide +kernel) (⟨rfl, fun q => x_if0 hr_8 c_11 ((x_wm hO (by omega)).mpr q)⟩) dX6_sent_14 dX6_sent_17 dX6_sent_18 dX6_sent_21 dX6_sent_24 hl.1 ⟨by decide, Nat.le_of_ble_eq_true rfl, by decide, by decide⟩ (by decide) (by decide)
/-- X6_count -/
def q_X6_count (σ : x_St) (a : Int32) : Int32 → x_St → Prop := fun r σ' => σ' = σ ∧ (0 ≤ a ∧ a ≤ 6) ∧ r = if a = 0 then σ 6 0 1 else if a = 1 then σ 6 0 3 else if a = 2 then σ 6 0 6 else if a = 3 then σ 6 0 8 else if a = 4 then σ 6 0 12 else if a = 5 then σ 6 0 6 * 12 else σ 6 0 13
set_option maxHeartbeats 4000000 in
set_option maxRecDepth 100000 in
theorem c_X6_count {l : Launch} {D : va_G} {cs : Nat → ClassId} {base : Nat} {ad : Nat → Nat → Nat} {nS nB nC nO : Nat} {σ : x_St} (hl0 : l.stackTraces = false) (a : Int32) : x_Xi l yX6_count cX6_count 2 (some .int) 8 1 6 D cs base ad (x_n nS nB nC nO) (x_s nS nB nC nO nS nC) σ [.ref (ad 6 0), .int a] (q_X6_count σ a) (fun σ' => x_U D cs base ad (x_n nS nB nC nO) (x_s nS nB nC nO nS nC) σ') (fun E => E = x_nse ∧ ¬ (0 ≤ a ∧ a ≤ 6)) := by
  refine vx_ofW (cc := cX6_count) (maxL := 2) (ret := some .int) (by decide) rfl ?_
  intro p e s m args below meth c s₁ B hml hout hv
  obtain ⟨rfl, hU⟩ := hv
  have hx := B.exec
  have hb := B.bytes
  have hr := B.returns
  have hts := atoms_spec (ws := Cond.code yX6_count cX6_count 2 (some .int) :: Tw) B.pre
  have hown : s.vm.findClass RX6 = some m.cls := findClass_of_methodNamed B.named
  have hlocks := B.notSynchronized
  have hc : CallFix p m c cX6_count 2 s (([.ref (ad 6 0), .int a] : List Value).toArray) Tw RX6 := ⟨hx, hb, hml, hown, fun w hw => hts w (List.mem_cons_of_mem _ hw)⟩
  have hw := x_B.start hU
  have hl := lv_entry ([.ref (ad 6 0), .int a]) (n := 2) (Nat.le_of_ble_eq_true rfl)
  rw [lg_entry_eq]
  generalize (lg_sl ([.ref (ad 6 0), .int a]) ++ List.replicate (2 - (lg_sl ([.ref (ad 6 0), .int a])).length) Slot.unset).toArray = ls at hl ⊢
  have hl : lv_has ls 2 [(0, .ref (ad 6 0)), (1, .int a)] := hl
  show W p l e (x_rm 8 1 6) s m ([.ref (ad 6 0), .int a] : List Value).toArray below meth c s.heap [] 0 0 (vx_MQ below (va_Qi (q_X6_count σ a) (fun σ' => x_U D cs base ad (x_n nS nB nC nO) (x_s nS nB nC nO nS nC) σ') (x_A base)) (x_XC D cs base ad (x_n nS nB nC nO) (x_s nS nB nC nO nS nC) σ (fun E => E = x_nse ∧ ¬ (0 ≤ a ∧ a ≤ 6))) ([.ref (ad 6 0), .int a] : List Value).toArray s 1 6 (x_A base)) (F0 m 0 ls [])
  refine lv_iload_n hx hb dX6_count_0 rfl (lv_at hl 1 rfl) ?_
  rcases x_sw a 7 (by decide) with hsw | ⟨jsw, hjsw, hsw⟩
  · refine lv_tableOut (tgt := 82) hx hb dX6_count_1 (x_swo hsw) (by decide) ?_
    exact xk_NW hl0 hc hout hlocks hw (is := 275) (text := "the works has no such count") (by decide +kernel) (⟨rfl, x_swbad hsw⟩) dX6_count_82 dX6_count_85 dX6_count_86 dX6_count_89 dX6_count_92 hl.1 ⟨by decide, Nat.le_of_ble_eq_true rfl, by decide, by decide⟩ (by decide) (by decide)
  · rcases (by omega : jsw = 0 ∨ jsw = 1 ∨ jsw = 2 ∨ jsw = 3 ∨ jsw = 4 ∨ jsw = 5 ∨ jsw = 6) with rfl | rfl | rfl | rfl | rfl | rfl | rfl
    · refine lv_tableIn (tgt := 44) (off := 43) hx hb dX6_count_1 (x_swl hsw) (x_swh hsw (by decide)) (by rw [x_swn hsw (by decide)]; rfl) (by decide) ?_
      refine lv_aload_n hx hb dX6_count_44 rfl (lv_at hl 0 rfl) ?_
      refine xg_i hc hw 6 0 1 rfl rfl rfl rfl (by decide) (Nat.zero_lt_one) mw_80 dX6_count_45 ?_
      exact xr_xi hc hlocks hr rfl hw (⟨rfl, (x_swgood hsw (by decide) (by decide)), by rw [hsw]; rfl⟩) (Nat.le_of_ble_eq_true rfl) (Nat.le_of_ble_eq_true rfl) dX6_count_48
    · refine lv_tableIn (tgt := 49) (off := 48) hx hb dX6_count_1 (x_swl hsw) (x_swh hsw (by decide)) (by rw [x_swn hsw (by decide)]; rfl) (by decide) ?_
      refine lv_aload_n hx hb dX6_count_49 rfl (lv_at hl 0 rfl) ?_
      refine xg_i hc hw 6 0 3 rfl rfl rfl rfl (by decide) (Nat.zero_lt_one) mw_82 dX6_count_50 ?_
      exact xr_xi hc hlocks hr rfl hw (⟨rfl, (x_swgood hsw (by decide) (by decide)), by rw [hsw]; rfl⟩) (Nat.le_of_ble_eq_true rfl) (Nat.le_of_ble_eq_true rfl) dX6_count_53
    · refine lv_tableIn (tgt := 54) (off := 53) hx hb dX6_count_1 (x_swl hsw) (x_swh hsw (by decide)) (by rw [x_swn hsw (by decide)]; rfl) (by decide) ?_
      refine lv_aload_n hx hb dX6_count_54 rfl (lv_at hl 0 rfl) ?_
      refine xg_i hc hw 6 0 6 rfl rfl rfl rfl (by decide) (Nat.zero_lt_one) mw_85 dX6_count_55 ?_
      exact xr_xi hc hlocks hr rfl hw (⟨rfl, (x_swgood hsw (by decide) (by decide)), by rw [hsw]; rfl⟩) (Nat.le_of_ble_eq_true rfl) (Nat.le_of_ble_eq_true rfl) dX6_count_58
    · refine lv_tableIn (tgt := 59) (off := 58) hx hb dX6_count_1 (x_swl hsw) (x_swh hsw (by decide)) (by rw [x_swn hsw (by decide)]; rfl) (by decide) ?_
      refine lv_aload_n hx hb dX6_count_59 rfl (lv_at hl 0 rfl) ?_
      refine xg_i hc hw 6 0 8 rfl rfl rfl rfl (by decide) (Nat.zero_lt_one) mw_87 dX6_count_60 ?_
      exact xr_xi hc hlocks hr rfl hw (⟨rfl, (x_swgood hsw (by decide) (by decide)), by rw [hsw]; rfl⟩) (Nat.le_of_ble_eq_true rfl) (Nat.le_of_ble_eq_true rfl) dX6_count_63
    · refine lv_tableIn (tgt := 64) (off := 63) hx hb dX6_count_1 (x_swl hsw) (x_swh hsw (by decide)) (by rw [x_swn hsw (by decide)]; rfl) (by decide) ?_
      refine lv_aload_n hx hb dX6_count_64 rfl (lv_at hl 0 rfl) ?_
      refine xg_i hc hw 6 0 12 rfl rfl rfl rfl (by decide) (Nat.zero_lt_one) mw_91 dX6_count_65 ?_
      exact xr_xi hc hlocks hr rfl hw (⟨rfl, (x_swgood hsw (by decide) (by decide)), by rw [hsw]; rfl⟩) (Nat.le_of_ble_eq_true rfl) (Nat.le_of_ble_eq_true rfl) dX6_count_68
    · refine lv_tableIn (tgt := 69) (off := 68) hx hb dX6_count_1 (x_swl hsw) (x_swh hsw (by decide)) (by rw [x_swn hsw (by decide)]; rfl) (by decide) ?_
      refine lv_aload_n hx hb dX6_count_69 rfl (lv_at hl 0 rfl) ?_
      refine xg_i hc hw 6 0 6 rfl rfl rfl rfl (by decide) (Nat.zero_lt_one) mw_85 dX6_count_70 ?_
      refine lv_bipush (v := 12) hx hb dX6_count_73 (by decide) ?_
      refine lv_imul hx hb dX6_count_75 ?_
      exact xr_xi hc hlocks hr rfl hw (⟨rfl, (x_swgood hsw (by decide) (by decide)), by rw [hsw]; rfl⟩) (Nat.le_of_ble_eq_true rfl) (Nat.le_of_ble_eq_true rfl) dX6_count_76
    · refine lv_tableIn (tgt := 77) (off := 76) hx hb dX6_count_1 (x_swl hsw) (x_swh hsw (by decide)) (by rw [x_swn hsw (by decide)]; rfl) (by decide) ?_
      refine lv_aload_n hx hb dX6_count_77 rfl (lv_at hl 0 rfl) ?_
      refine xg_i hc hw 6 0 13 rfl rfl rfl rfl (by decide) (Nat.zero_lt_one) mw_92 dX6_count_78 ?_
      exact xr_xi hc hlocks hr rfl hw (⟨rfl, (x_swgood hsw (by decide) (by decide)), by rw [hsw]; rfl⟩) (Nat.le_of_ble_eq_true rfl) (Nat.le_of_ble_eq_true rfl) dX6_count_81
/-- X6_list -/
def q_X6_list (σ : x_St) (a b d : Int32) : Int32 → x_St → Prop := fun r σ' => (1 ≤ a ∧ a ≤ 3 ∧ 1 ≤ b ∧ b ≤ 9 ∧ 0 ≤ d ∧ d ≤ 999) ∧ r = σ 11 0 (10 * x_c a + x_c b) ∧ σ' = if σ 11 0 (10 * x_c a + x_c b) = d then σ else x_up (x_up σ 11 0 (10 * x_c a + x_c b) d) 2 0 1 (σ 2 0 1 + 1)
set_option maxHeartbeats 4000000 in
set_option maxRecDepth 100000 in
theorem c_X6_list {l : Launch} {D : va_G} {cs : Nat → ClassId} {base : Nat} {ad : Nat → Nat → Nat} {nS nB nC nO : Nat} {σ : x_St} (hl0 : l.stackTraces = false) (a b d : Int32) : x_Xi l yX6_list cX6_list 4 (some .int) 8 1 6 D cs base ad (x_n nS nB nC nO) (x_s nS nB nC nO nS nC) σ [.ref (ad 6 0), .int a, .int b, .int d] (q_X6_list σ a b d) (fun σ' => x_U D cs base ad (x_n nS nB nC nO) (x_s nS nB nC nO nS nC) σ') (fun E => E = x_iae ∧ ¬ (1 ≤ a ∧ a ≤ 3 ∧ 1 ≤ b ∧ b ≤ 9 ∧ 0 ≤ d ∧ d ≤ 999)) := by
  refine vx_ofW (cc := cX6_list) (maxL := 4) (ret := some .int) (by decide) rfl ?_
  intro p e s m args below meth c s₁ B hml hout hv
  obtain ⟨rfl, hU⟩ := hv
  have hx := B.exec
  have hb := B.bytes
  have hr := B.returns
  have hts := atoms_spec (ws := Cond.code yX6_list cX6_list 4 (some .int) :: Tw) B.pre
  have hown : s.vm.findClass RX6 = some m.cls := findClass_of_methodNamed B.named
  have hlocks := B.notSynchronized
  have hc : CallFix p m c cX6_list 4 s (([.ref (ad 6 0), .int a, .int b, .int d] : List Value).toArray) Tw RX6 := ⟨hx, hb, hml, hown, fun w hw => hts w (List.mem_cons_of_mem _ hw)⟩
  have hw := x_B.start hU
  have hl := lv_entry ([.ref (ad 6 0), .int a, .int b, .int d]) (n := 4) (Nat.le_of_ble_eq_true rfl)
  rw [lg_entry_eq]
  generalize (lg_sl ([.ref (ad 6 0), .int a, .int b, .int d]) ++ List.replicate (4 - (lg_sl ([.ref (ad 6 0), .int a, .int b, .int d])).length) Slot.unset).toArray = ls at hl ⊢
  have hl : lv_has ls 4 [(0, .ref (ad 6 0)), (1, .int a), (2, .int b), (3, .int d)] := hl
  show W p l e (x_rm 8 1 6) s m ([.ref (ad 6 0), .int a, .int b, .int d] : List Value).toArray below meth c s.heap [] 0 0 (vx_MQ below (va_Qi (q_X6_list σ a b d) (fun σ' => x_U D cs base ad (x_n nS nB nC nO) (x_s nS nB nC nO nS nC) σ') (x_A base)) (x_XC D cs base ad (x_n nS nB nC nO) (x_s nS nB nC nO nS nC) σ (fun E => E = x_iae ∧ ¬ (1 ≤ a ∧ a ≤ 3 ∧ 1 ≤ b ∧ b ≤ 9 ∧ 0 ≤ d ∧ d ≤ 999))) ([.ref (ad 6 0), .int a, .int b, .int d] : List Value).toArray s 1 6 (x_A base)) (F0 m 0 ls [])
  refine lv_iload_n hx hb dX6_list_0 rfl (lv_at hl 1 rfl) ?_
  refine xc_Si hc hw (c_X6_isSize a) mw_190 mw_188 mw_1 mw_189 xd_X6_isSize ⟨by decide, by decide⟩ (rfl) hl.1 (Nat.le_of_ble_eq_true rfl) dX6_list_1 ⟨Nat.le_of_ble_eq_true rfl, Nat.le_of_ble_eq_true rfl⟩ (fun r_1 σ_1 H locs hq hw => ?_)
  obtain ⟨hσ_1, hr_1⟩ := hq
  rw [hσ_1] at hw
  refine lv_if_eq (tgt := 28) hx hb dX6_list_4 (by decide) (fun c_4 => ?_) (fun c_4 => ?_)
  · exact xk_I hl0 hc hout hlocks hw (is := 114) (text := "no such size, thickness or worth") (by decide +kernel) (⟨rfl, fun q => by first | exact x_if0 hr_1 c_4 ⟨q.1, q.2.1⟩ | exact x_if0 hr_11 c_14 ⟨q.2.2.1, q.2.2.2.1⟩ | exact x_if0 hr_22 c_25 q.2.2.2.2⟩) dX6_list_28 dX6_list_31 dX6_list_32 dX6_list_34 dX6_list_37 hl.1 ⟨by decide, Nat.le_of_ble_eq_true rfl, by decide, by decide⟩ (by decide) (by decide)
  · refine lv_iload_n hx hb dX6_list_7 rfl (lv_at hl 2 rfl) ?_
    refine lv_iconst (v := 1) hx hb dX6_list_8 (by decide) ?_
    refine lv_bipush (v := 9) hx hb dX6_list_9 (by decide) ?_
    refine xc_Si hc hw (c_X6_isWithin b 1 9) mw_128 mw_126 mw_1 mw_127 xd_X6_isWithin ⟨by decide, by decide⟩ (rfl) hl.1 (Nat.le_of_ble_eq_true rfl) dX6_list_11 ⟨Nat.le_of_ble_eq_true rfl, Nat.le_of_ble_eq_true rfl⟩ (fun r_11 σ_11 H locs hq hw => ?_)
    obtain ⟨hσ_11, hr_11⟩ := hq
    rw [hσ_11] at hw
    refine lv_if_eq (tgt := 28) hx hb dX6_list_14 (by decide) (fun c_14 => ?_) (fun c_14 => ?_)
    · exact xk_I hl0 hc hout hlocks hw (is := 114) (text := "no such size, thickness or worth") (by decide +kernel) (⟨rfl, fun q => by first | exact x_if0 hr_1 c_4 ⟨q.1, q.2.1⟩ | exact x_if0 hr_11 c_14 ⟨q.2.2.1, q.2.2.2.1⟩ | exact x_if0 hr_22 c_25 q.2.2.2.2⟩) dX6_list_28 dX6_list_31 dX6_list_32 dX6_list_34 dX6_list_37 hl.1 ⟨by decide, Nat.le_of_ble_eq_true rfl, by decide, by decide⟩ (by decide) (by decide)
    · refine lv_iload_n hx hb dX6_list_17 rfl (lv_at hl 3 rfl) ?_
      refine lv_iconst (v := 0) hx hb dX6_list_18 (by decide) ?_
      refine lv_sipush (v := 999) hx hb dX6_list_19 (by decide) ?_
      refine xc_Si hc hw (c_X6_isWithin d 0 999) mw_128 mw_126 mw_1 mw_127 xd_X6_isWithin ⟨by decide, by decide⟩ (rfl) hl.1 (Nat.le_of_ble_eq_true rfl) dX6_list_22 ⟨Nat.le_of_ble_eq_true rfl, Nat.le_of_ble_eq_true rfl⟩ (fun r_22 σ_22 H locs hq hw => ?_)
      obtain ⟨hσ_22, hr_22⟩ := hq
      rw [hσ_22] at hw
      refine lv_if_ne (tgt := 38) hx hb dX6_list_25 (by decide) (fun c_25 => ?_) (fun c_25 => ?_)
      · have hP : (1 ≤ a ∧ a ≤ 3 ∧ 1 ≤ b ∧ b ≤ 9 ∧ 0 ≤ d ∧ d ≤ 999) := ⟨(x_if1 hr_1 c_4).1, (x_if1 hr_1 c_4).2, (x_if1 hr_11 c_14).1, (x_if1 hr_11 c_14).2, x_if1 hr_22 c_25⟩
        obtain ⟨ea, ga⟩ := x_ixle (Int32.le_trans (by decide) hP.1) hP.2.1 (N := 3) rfl (by decide)
        obtain ⟨eb, gb⟩ := x_ixle (Int32.le_trans (by decide) hP.2.2.1) hP.2.2.2.1 (N := 9) rfl (by decide)
        refine lv_aload_n hx hb dX6_list_38 rfl (lv_at hl 0 rfl) ?_
        refine xg_r hc hw 6 0 10 rfl rfl rfl rfl (by decide) (Nat.zero_lt_one) (Nat.zero_lt_one) mw_89 dX6_list_39 ?_
        refine lv_iload_n hx hb dX6_list_42 rfl (lv_at hl 1 rfl) ?_
        refine lv_iload_n hx hb dX6_list_43 rfl (lv_at hl 2 rfl) ?_
        refine lv_iload_n hx hb dX6_list_44 rfl (lv_at hl 3 rfl) ?_
        refine xc_Vi hc hw 2 0 (c_X2_relist (x_c a) (x_c b) d (by omega) (by omega) Nat.zero_lt_one Nat.zero_lt_one Nat.zero_lt_one) rfl rfl (Nat.zero_lt_one) mw_338 mw_335 mw_2 mw_336 mw_337 xd_X2_relist ⟨by decide, by decide⟩ (by rw [← ea, ← eb]; rfl) hl.1 (Nat.le_of_ble_eq_true rfl) dX6_list_45 ⟨Nat.le_of_ble_eq_true rfl, Nat.le_of_ble_eq_true rfl⟩ (fun r_45 σ_45 H locs hq hw => ?_)
        have hq_45 := hq
        exact xr_xi hc hlocks hr rfl hw (⟨hP, hq_45.1, hq_45.2⟩) (Nat.le_of_ble_eq_true rfl) (Nat.le_of_ble_eq_true rfl) dX6_list_48
      · exact xk_I hl0 hc hout hlocks hw (is := 114) (text := "no such size, thickness or worth") (by decide +kernel) (⟨rfl, fun q => by first | exact x_if0 hr_1 c_4 ⟨q.1, q.2.1⟩ | exact x_if0 hr_11 c_14 ⟨q.2.2.1, q.2.2.2.1⟩ | exact x_if0 hr_22 c_25 q.2.2.2.2⟩) dX6_list_28 dX6_list_31 dX6_list_32 dX6_list_34 dX6_list_37 hl.1 ⟨by decide, Nat.le_of_ble_eq_true rfl, by decide, by decide⟩ (by decide) (by decide)
