theorem x_nn {x : Int32} (h : 0 ≤ x) : x = nI (x_c x) ∧ x_c x < 2 ^ 31 := by
  obtain ⟨j, hj, rfl⟩ := nI_of (Int32.not_lt.mpr h)
  rw [x_c, nI_clamp hj]
  exact ⟨rfl, hj⟩
theorem m_wk_7 (σ : x_St) (mm bb : Nat) (h : Int32) (j : Nat) : (m_wk σ mm bb h).2 7 0 j = σ 7 0 j := by
  unfold m_wk; split
  · rfl
  · split <;> simp [x_up]
theorem m_wk_43 (σ : x_St) (mm bb : Nat) (h : Int32) (q : Nat) : (m_wk σ mm bb h).2 43 0 q = σ 43 0 q := by
  unfold m_wk; split
  · rfl
  · split <;> simp [x_up]
def m_ws (mm : Nat) (h : Int32) : Nat → Nat → x_St → Nat → Nat × x_St
  | 0, _, σ, c => (c, σ)
  | f + 1, k, σ, c => m_ws mm h f (k + 1) (m_wk σ mm k h).2 (c + if (m_wk σ mm k h).1 = 1 then 1 else 0)
def m_bv (t h : Int32) : Int32 := if h < t then t - h else 0
def m_bl (s h : Int32) : Nat → Nat → x_St → Nat → Nat × x_St
  | 0, _, σ, c => (c, σ)
  | f + 1, k, σ, c => if σ 45 0 k = s ∧ ¬ (σ 46 0 k = 3 ∨ σ 46 0 k = 4) then m_bl s h f (k + 1) (x_up σ 44 0 k (m_bv (σ 44 0 k) h)) (c + if m_bv (σ 44 0 k) h = σ 44 0 k then 0 else 1) else m_bl s h f (k + 1) σ c

/-- X7_work -/
def q_X7_work (σ : x_St) (a b h : Int32) : Int32 → x_St → Prop := fun r σ' => ((0 ≤ a ∧ a ≤ 5) ∧ (0 ≤ b ∧ b < σ 7 0 2) → r = (m_wk (x_up σ 7 0 0 0) (x_c a) (x_c b) h).1 ∧ σ' = (m_wk (x_up σ 7 0 0 0) (x_c a) (x_c b) h).2) ∧ (¬ ((0 ≤ a ∧ a ≤ 5) ∧ (0 ≤ b ∧ b < σ 7 0 2)) → σ' = x_up σ 7 0 0 1)
set_option maxHeartbeats 4000000 in
set_option maxRecDepth 100000 in
theorem c_X7_work {l : Launch} {D : va_G} {cs : Nat → ClassId} {base : Nat} {ad : Nat → Nat → Nat} {n st : Nat → Nat} {σ : x_St} (a b h : Int32) (nB : Nat) (hB : σ 7 0 2 = nI nB) (hB0 : nB ≤ 400) (hth : ∀ q, q < nB → ¬ σ 43 0 q = 0) (h7 : 0 < n 7) (hm : ∀ k, 36 ≤ k → k < 70 → 0 < n k ∧ 0 < st (100 + k)) : x_Ci l yX7_work cX7_work 4 (some .int) 4 0 0 D cs base ad n st σ [.ref (ad 7 0), .int a, .int b, .int h] (q_X7_work σ a b h) (fun σ' => x_U D cs base ad n st σ') := by
  refine Met.ofW (cc := cX7_work) (maxL := 4) (ret := some .int) (by decide) rfl ?_
  intro p e s m args below meth c s₁ B hml hv
  obtain ⟨rfl, hU⟩ := hv
  have hx := B.exec
  have hb := B.bytes
  have hr := B.returns
  have hts := atoms_spec (ws := Cond.code yX7_work cX7_work 4 (some .int) :: Tw) B.pre
  have hown : s.vm.findClass RX7 = some m.cls := findClass_of_methodNamed B.named
  have hlocks := B.notSynchronized
  have hc : CallFix p m c cX7_work 4 s (([.ref (ad 7 0), .int a, .int b, .int h] : List Value).toArray) Tw RX7 := ⟨hx, hb, hml, hown, fun w hw => hts w (List.mem_cons_of_mem _ hw)⟩
  have hw := x_B.start hU
  have hl := lv_entry ([.ref (ad 7 0), .int a, .int b, .int h]) (n := 4) (Nat.le_of_ble_eq_true rfl)
  rw [lg_entry_eq]
  generalize (lg_sl ([.ref (ad 7 0), .int a, .int b, .int h]) ++ List.replicate (4 - (lg_sl ([.ref (ad 7 0), .int a, .int b, .int h])).length) Slot.unset).toArray = ls at hl ⊢
  have hl : lv_has ls 4 [(0, .ref (ad 7 0)), (1, .int a), (2, .int b), (3, .int h)] := hl
  show W p l e (x_rm 4 0 0) s m ([.ref (ad 7 0), .int a, .int b, .int h] : List Value).toArray below meth c s.heap [] 0 0 (MQ below (va_Qi (q_X7_work σ a b h) (fun σ' => x_U D cs base ad n st σ') (x_A base)) ([.ref (ad 7 0), .int a, .int b, .int h] : List Value).toArray s 0 0 (x_A base)) (F0 m 0 ls [])
  refine lv_aload_n hx hb dX7_work_0 rfl (lv_at hl 0 rfl) ?_
  refine lv_iload_n hx hb dX7_work_1 rfl (lv_at hl 1 rfl) ?_
  refine xc_Vi hc hw 7 0 (c_X7_isMachine a h7 hm) rfl rfl (h7) mw_887 mw_884 mw_4 mw_886 mp_27 xd_X7_isMachine ⟨by decide, by decide⟩ (rfl) hl.1 (Nat.le_of_ble_eq_true rfl) dX7_work_2 ⟨Nat.le_of_ble_eq_true rfl, Nat.le_of_ble_eq_true rfl⟩ (fun r_2 σ_2 H locs hq hw => ?_)
  have hq_2 := hq
  obtain ⟨hr_2, hσ_2⟩ := hq_2
  refine lv_if_eq (tgt := 26) hx hb dX7_work_5 (by decide) (fun c_5 => ?_) (fun c_5 => ?_)
  · refine lv_iconst (v := 0) hx hb dX7_work_26 (by decide) ?_
    exact xr_i hc hlocks hr rfl hw (⟨fun h => absurd h.1 (x_if0 hr_2 c_5), fun _ => by rw [hσ_2, if_neg (x_if0 hr_2 c_5)]⟩) (Nat.le_of_ble_eq_true rfl) (Nat.le_of_ble_eq_true rfl) dX7_work_27
  · have hP := x_if1 hr_2 c_5
    refine lv_aload_n hx hb dX7_work_8 rfl (lv_at hl 0 rfl) ?_
    refine lv_iload_n hx hb dX7_work_9 rfl (lv_at hl 2 rfl) ?_
    refine xc_Vi hc hw 7 0 (c_X7_isButton b h7 hm) rfl rfl (h7) mw_879 mw_876 mw_4 mw_878 mp_26 xd_X7_isButton ⟨by decide, by decide⟩ (rfl) hl.1 (Nat.le_of_ble_eq_true rfl) dX7_work_10 ⟨Nat.le_of_ble_eq_true rfl, Nat.le_of_ble_eq_true rfl⟩ (fun r_10 σ_10 H locs hq hw => ?_)
    have hq_10 := hq
    obtain ⟨hr_10, hσ_10⟩ := hq_10 (x_th hσ_2 hP)
    rw [hσ_2, if_pos hP] at hr_10 hσ_10
    rw [x_up_up] at hσ_10
    rw [x_t7 _ _ 2 (by decide)] at hr_10 hσ_10
    refine lv_if_eq (tgt := 26) hx hb dX7_work_13 (by decide) (fun c_13 => ?_) (fun c_13 => ?_)
    · refine lv_iconst (v := 0) hx hb dX7_work_26 (by decide) ?_
      exact xr_i hc hlocks hr rfl hw (⟨fun h => absurd h.2 (x_if0 hr_10 c_13), fun _ => by rw [hσ_10, if_neg (x_if0 hr_10 c_13)]⟩) (Nat.le_of_ble_eq_true rfl) (Nat.le_of_ble_eq_true rfl) dX7_work_27
    · have hQ := x_if1 hr_10 c_13
      rw [if_pos hQ] at hσ_10
      have ea := x_ixle hP.1 hP.2 (N := 5) rfl (by decide)
      have eb := x_ix hQ.1 hQ.2 hB (by omega)
      refine lv_aload_n hx hb dX7_work_16 rfl (lv_at hl 0 rfl) ?_
      refine lv_iload_n hx hb dX7_work_17 rfl (lv_at hl 1 rfl) ?_
      refine lv_iload_n hx hb dX7_work_18 rfl (lv_at hl 2 rfl) ?_
      refine lv_iload_n hx hb dX7_work_19 rfl (lv_at hl 3 rfl) ?_
      refine xc_Vi hc hw 7 0 (c_X7_worked (x_c a) (x_c b) h (by omega) (by omega) (by rw [hσ_10]; simpa [x_up] using hth _ eb.2) h7 hm) rfl rfl (h7) mw_895 mw_892 mw_4 mw_894 mp_28 xd_X7_worked ⟨by decide, by decide⟩ (by rw [← ea.1, ← eb.1]; rfl) hl.1 (Nat.le_of_ble_eq_true rfl) dX7_work_20 ⟨Nat.le_of_ble_eq_true rfl, Nat.le_of_ble_eq_true rfl⟩ (fun r_20 σ_20 H locs hq hw => ?_)
      have hq_20 := hq
      refine lv_goto (tgt := 27) hx hb dX7_work_23 (by decide) ?_
      exact xr_i hc hlocks hr rfl hw (⟨fun _ => by rw [hσ_10] at hq_20; exact hq_20, fun h => absurd ⟨hP, hQ⟩ h⟩) (Nat.le_of_ble_eq_true rfl) (Nat.le_of_ble_eq_true rfl) dX7_work_27
/-- X7_works -/
def q_X7_works (σ : x_St) (a b d f : Int32) (nB : Nat) : Int32 → x_St → Prop := fun r σ' => ((0 ≤ a ∧ a ≤ 5) → 0 ≤ b ∧ b ≤ d → r = nI (m_ws (x_c a) f (min (x_c d) nB - x_c b) (x_c b) (x_up σ 7 0 0 0) 0).1 ∧ σ' = (m_ws (x_c a) f (min (x_c d) nB - x_c b) (x_c b) (x_up σ 7 0 0 0) 0).2) ∧ (¬ (0 ≤ a ∧ a ≤ 5) → σ' = x_up σ 7 0 0 1) ∧ ((0 ≤ a ∧ a ≤ 5) → ¬ (0 ≤ b ∧ b ≤ d) → σ' = x_up σ 7 0 0 2)
set_option maxHeartbeats 4000000 in
set_option maxRecDepth 100000 in
theorem c_X7_works {l : Launch} {D : va_G} {cs : Nat → ClassId} {base : Nat} {ad : Nat → Nat → Nat} {n st : Nat → Nat} {σ : x_St} (a b d f : Int32) (nB : Nat) (hB : σ 7 0 2 = nI nB) (hB0 : nB ≤ 400) (hth : ∀ q, q < nB → ¬ σ 43 0 q = 0) (h7 : 0 < n 7) (hm : ∀ k, 36 ≤ k → k < 70 → 0 < n k ∧ 0 < st (100 + k)) : x_Ci l yX7_works cX7_works 7 (some .int) 4 0 0 D cs base ad n st σ [.ref (ad 7 0), .int a, .int b, .int d, .int f] (q_X7_works σ a b d f nB) (fun σ' => x_U D cs base ad n st σ') := by
  refine Met.ofW (cc := cX7_works) (maxL := 7) (ret := some .int) (by decide) rfl ?_
  intro p e s m args below meth c s₁ B hml hv
  obtain ⟨rfl, hU⟩ := hv
  have hx := B.exec
  have hb := B.bytes
  have hr := B.returns
  have hts := atoms_spec (ws := Cond.code yX7_works cX7_works 7 (some .int) :: Tw) B.pre
  have hown : s.vm.findClass RX7 = some m.cls := findClass_of_methodNamed B.named
  have hlocks := B.notSynchronized
  have hc : CallFix p m c cX7_works 7 s (([.ref (ad 7 0), .int a, .int b, .int d, .int f] : List Value).toArray) Tw RX7 := ⟨hx, hb, hml, hown, fun w hw => hts w (List.mem_cons_of_mem _ hw)⟩
  have hw := x_B.start hU
  have hl := lv_entry ([.ref (ad 7 0), .int a, .int b, .int d, .int f]) (n := 7) (Nat.le_of_ble_eq_true rfl)
  rw [lg_entry_eq]
  generalize (lg_sl ([.ref (ad 7 0), .int a, .int b, .int d, .int f]) ++ List.replicate (7 - (lg_sl ([.ref (ad 7 0), .int a, .int b, .int d, .int f])).length) Slot.unset).toArray = ls at hl ⊢
  have hl : lv_has ls 7 [(0, .ref (ad 7 0)), (1, .int a), (2, .int b), (3, .int d), (4, .int f)] := hl
  show W p l e (x_rm 4 0 0) s m ([.ref (ad 7 0), .int a, .int b, .int d, .int f] : List Value).toArray below meth c s.heap [] 0 0 (MQ below (va_Qi (q_X7_works σ a b d f nB) (fun σ' => x_U D cs base ad n st σ') (x_A base)) ([.ref (ad 7 0), .int a, .int b, .int d, .int f] : List Value).toArray s 0 0 (x_A base)) (F0 m 0 ls [])
  refine lv_aload_n hx hb dX7_works_0 rfl (lv_at hl 0 rfl) ?_
  refine lv_iload_n hx hb dX7_works_1 rfl (lv_at hl 1 rfl) ?_
  refine xc_Vi hc hw 7 0 (c_X7_isMachine a h7 hm) rfl rfl (h7) mw_887 mw_884 mw_4 mw_886 mp_27 xd_X7_isMachine ⟨by decide, by decide⟩ (rfl) hl.1 (Nat.le_of_ble_eq_true rfl) dX7_works_2 ⟨Nat.le_of_ble_eq_true rfl, Nat.le_of_ble_eq_true rfl⟩ (fun r_2 σ_2 H locs hq hw => ?_)
  have hq_2 := hq
  obtain ⟨hr_2, hσ_2⟩ := hq_2
  refine lv_if_eq (tgt := 30) hx hb dX7_works_5 (by decide) (fun c_5 => ?_) (fun c_5 => ?_)
  · refine lv_iconst (v := 0) hx hb dX7_works_30 (by decide) ?_
    exact xr_i hc hlocks hr rfl hw (⟨fun h => absurd h (x_if0 hr_2 c_5), fun _ => by rw [hσ_2, if_neg (x_if0 hr_2 c_5)], fun h => absurd h (x_if0 hr_2 c_5)⟩) (Nat.le_of_ble_eq_true rfl) (Nat.le_of_ble_eq_true rfl) dX7_works_31
  · have hP := x_if1 hr_2 c_5
    have cut_23 : ∀ (g : Int32), (g = if 0 ≤ b ∧ b ≤ d then 1 else 0) → ∀ (H : Heap) (locs : List Loc) (ls : Array Slot), lv_has ls 7 [(0, .ref (ad 7 0)), (1, .int a), (2, .int b), (3, .int d), (4, .int f)] → x_B D cs base ad n st σ_2 s H locs → W p l e (x_rm 4 0 0) s m ([.ref (ad 7 0), .int a, .int b, .int d, .int f] : List Value).toArray below meth c H locs 0 0 (MQ below (va_Qi (q_X7_works σ a b d f nB) (fun σ' => x_U D cs base ad n st σ') (x_A base)) ([.ref (ad 7 0), .int a, .int b, .int d, .int f] : List Value).toArray s 0 0 (x_A base)) (F0 m 23 ls [.int g, .ref (ad 7 0)]) := by
      intro g hf H locs ls hl hw
      refine lv_iconst (v := 2) hx hb dX7_works_23 (by decide) ?_
      refine xc_Vi hc hw 7 0 (c_X7_right g 2 h7 hm) rfl rfl (h7) mw_834 mw_831 mw_4 mw_833 mp_20 xd_X7_right ⟨by decide, by decide⟩ (rfl) hl.1 (Nat.le_of_ble_eq_true rfl) dX7_works_24 ⟨Nat.le_of_ble_eq_true rfl, Nat.le_of_ble_eq_true rfl⟩ (fun r_24 σ_24 H locs hq hw => ?_)
      have hq_24 := hq
      obtain ⟨hr_24, hσ_24⟩ := x_right hq_24 (x_th hσ_2 hP) hf (by decide)
      rw [hσ_2, if_pos hP, x_up_up] at hσ_24
      refine lv_if_ne (tgt := 32) hx hb dX7_works_27 (by decide) (fun c_27 => ?_) (fun c_27 => ?_)
      · have hQ := x_if1 hr_24 c_27
        rw [if_pos hQ] at hσ_24
        have ea := x_ixle hP.1 hP.2 (N := 5) rfl (by decide)
        have eb := x_nn hQ.1
        have ed := x_nn (Int32.le_trans hQ.1 hQ.2)
        refine lv_iconst (v := 0) hx hb dX7_works_32 (by decide) ?_
        refine lv_istore (lv' := [(5, .int 0), (0, .ref (ad 7 0)), (1, .int a), (2, .int b), (3, .int d), (4, .int f)]) hx hb dX7_works_33 hl (by decide) rfl (fun ls hl => ?_)
        refine lv_iload_n hx hb dX7_works_35 rfl (lv_at hl 3 rfl) ?_
        refine lv_istore (lv' := [(6, .int b), (5, .int 0), (0, .ref (ad 7 0)), (1, .int a), (2, .int b), (3, .int d), (4, .int f)]) hx hb dX7_works_36 hl (by decide) rfl (fun ls hl => ?_)
        have cut_38 : ∀ (N : Nat) (k : Nat) (cn : Nat) (x5 : Int32) (x6 : Int32) (σc : x_St), (k < 2 ^ 31) → (x5 = nI cn) → (x6 = nI k) → (σc 7 0 2 = nI nB) → (∀ q, q < nB → ¬ σc 43 0 q = 0) → (m_ws (x_c a) f (min (x_c d) nB - k) k σc cn = (m_ws (x_c a) f (min (x_c d) nB - x_c b) (x_c b) (x_up σ 7 0 0 0) 0)) → (nB - k < N) → ∀ (H : Heap) (locs : List Loc) (ls : Array Slot), lv_has ls 7 [(0, .ref (ad 7 0)), (1, .int a), (2, .int b), (3, .int d), (4, .int f), (5, .int x5), (6, .int x6)] → x_B D cs base ad n st σc s H locs → W p l e (x_rm 4 0 0) s m ([.ref (ad 7 0), .int a, .int b, .int d, .int f] : List Value).toArray below meth c H locs 0 0 (MQ below (va_Qi (q_X7_works σ a b d f nB) (fun σ' => x_U D cs base ad n st σ') (x_A base)) ([.ref (ad 7 0), .int a, .int b, .int d, .int f] : List Value).toArray s 0 0 (x_A base)) (F0 m 38 ls []) := by
          intro N
          induction N with
          | zero => intro k cn x5 x6 σc hk h5 h6 hB1 ht1 hI hN; exact absurd hN (Nat.not_lt_zero _)
          | succ N ih_38 =>
            intro k cn x5 x6 σc hk h5 h6 hB1 ht1 hI hN H locs ls hl hw
            refine lv_iload hx hb dX7_works_38 (lv_at hl 6 rfl) ?_
            refine lv_iload_n hx hb dX7_works_40 rfl (lv_at hl 3 rfl) ?_
            refine lv_icmp_ge (tgt := 75) hx hb dX7_works_41 (by decide) (fun c_41 => ?_) (fun c_41 => ?_)
            · refine lv_iload hx hb dX7_works_75 (lv_at hl 5 rfl) ?_
              exact xr_i hc hlocks hr rfl hw (⟨fun _ _ => by first | (have hz := x_ge h6 ed.1 hk ed.2 c_41; rw [show min (x_c d) nB - k = 0 by omega, m_ws] at hI; rw [← hI]; exact ⟨h5, rfl⟩) | (have hz := x_ge h6 hB1 hk (by omega) c_50; rw [show min (x_c d) nB - k = 0 by omega, m_ws] at hI; rw [← hI]; exact ⟨h5, rfl⟩), fun h => absurd hP h, fun _ h => absurd hQ h⟩) (Nat.le_of_ble_eq_true rfl) (Nat.le_of_ble_eq_true rfl) dX7_works_77
            · refine lv_iload hx hb dX7_works_44 (lv_at hl 6 rfl) ?_
              refine lv_aload_n hx hb dX7_works_46 rfl (lv_at hl 0 rfl) ?_
              refine xg_i hc hw 7 0 2 rfl rfl rfl rfl (by decide) (h7) mw_689 dX7_works_47 ?_
              refine lv_icmp_ge (tgt := 75) hx hb dX7_works_50 (by decide) (fun c_50 => ?_) (fun c_50 => ?_)
              · refine lv_iload hx hb dX7_works_75 (lv_at hl 5 rfl) ?_
                exact xr_i hc hlocks hr rfl hw (⟨fun _ _ => by first | (have hz := x_ge h6 ed.1 hk ed.2 c_41; rw [show min (x_c d) nB - k = 0 by omega, m_ws] at hI; rw [← hI]; exact ⟨h5, rfl⟩) | (have hz := x_ge h6 hB1 hk (by omega) c_50; rw [show min (x_c d) nB - k = 0 by omega, m_ws] at hI; rw [← hI]; exact ⟨h5, rfl⟩), fun h => absurd hP h, fun _ h => absurd hQ h⟩) (Nat.le_of_ble_eq_true rfl) (Nat.le_of_ble_eq_true rfl) dX7_works_77
              · have hlt : k < nB := x_nge h6 hB1 hk (by omega) c_50
                have hld : k < x_c d := x_nge h6 ed.1 hk ed.2 c_41
                have hst : min (x_c d) nB - k = (min (x_c d) nB - (k + 1)) + 1 := by omega
                rw [hst, m_ws] at hI
                refine lv_aload_n hx hb dX7_works_53 rfl (lv_at hl 0 rfl) ?_
                refine lv_iload_n hx hb dX7_works_54 rfl (lv_at hl 1 rfl) ?_
                refine lv_iload hx hb dX7_works_55 (lv_at hl 6 rfl) ?_
                refine lv_iload hx hb dX7_works_57 (lv_at hl 4 rfl) ?_
                refine xc_Vi hc hw 7 0 (c_X7_worked (x_c a) k f (by omega) (by omega) (ht1 k hlt) h7 hm) rfl rfl (h7) mw_895 mw_892 mw_4 mw_894 mp_28 xd_X7_worked ⟨by decide, by decide⟩ (by rw [← ea.1, ← h6]; rfl) hl.1 (Nat.le_of_ble_eq_true rfl) dX7_works_59 ⟨Nat.le_of_ble_eq_true rfl, Nat.le_of_ble_eq_true rfl⟩ (fun r_59 σ_59 H locs hq hw => ?_)
                have hq_59 := hq
                obtain ⟨hr_59, hσ_59⟩ := hq_59
                refine lv_iconst (v := 1) hx hb dX7_works_62 (by decide) ?_
                refine lv_icmp_ne (tgt := 69) hx hb dX7_works_63 (by decide) (fun c_63 => ?_) (fun c_63 => ?_)
                · obtain ⟨x6_69, ex6_69⟩ : ∃ y : Int32, y = x6 + 1 := ⟨_, rfl⟩
                  refine lv_iinc (v := x6_69) (lv' := [(6, .int x6_69), (0, .ref (ad 7 0)), (1, .int a), (2, .int b), (3, .int d), (4, .int f), (5, .int x5)]) hx hb dX7_works_69 hl (k := 6) rfl (by rw [ex6_69]; rfl) (by decide) rfl (fun ls hl => ?_)
                  refine lv_goto (tgt := 38) hx hb dX7_works_72 (by decide) ?_
                  exact ih_38 (k + 1) (cn + if (m_wk σc (x_c a) k f).1 = 1 then 1 else 0) _ _ _ (by omega) (by first | (rw [ex5_66, h5, nI_1, if_pos (hr_59.symm.trans c_63)]) | (rw [h5, if_neg (fun q => c_63 (hr_59.trans q)), Nat.add_zero])) (by rw [ex6_69, h6, nI_1]) (by rw [hσ_59, m_wk_7]; exact hB1) (by rw [hσ_59]; intro q hq; rw [m_wk_43]; exact ht1 q hq) (by rw [hσ_59]; exact hI) (by omega) _ _ _ (lv_sub hl [1, 2, 3, 4, 5, 6, 0] rfl) hw
                · obtain ⟨x5_66, ex5_66⟩ : ∃ y : Int32, y = x5 + 1 := ⟨_, rfl⟩
                  refine lv_iinc (v := x5_66) (lv' := [(5, .int x5_66), (0, .ref (ad 7 0)), (1, .int a), (2, .int b), (3, .int d), (4, .int f), (6, .int x6)]) hx hb dX7_works_66 hl (k := 5) rfl (by rw [ex5_66]; rfl) (by decide) rfl (fun ls hl => ?_)
                  obtain ⟨x6_69, ex6_69⟩ : ∃ y : Int32, y = x6 + 1 := ⟨_, rfl⟩
                  refine lv_iinc (v := x6_69) (lv' := [(6, .int x6_69), (5, .int x5_66), (0, .ref (ad 7 0)), (1, .int a), (2, .int b), (3, .int d), (4, .int f)]) hx hb dX7_works_69 hl (k := 6) rfl (by rw [ex6_69]; rfl) (by decide) rfl (fun ls hl => ?_)
                  refine lv_goto (tgt := 38) hx hb dX7_works_72 (by decide) ?_
                  exact ih_38 (k + 1) (cn + if (m_wk σc (x_c a) k f).1 = 1 then 1 else 0) _ _ _ (by omega) (by first | (rw [ex5_66, h5, nI_1, if_pos (hr_59.symm.trans c_63)]) | (rw [h5, if_neg (fun q => c_63 (hr_59.trans q)), Nat.add_zero])) (by rw [ex6_69, h6, nI_1]) (by rw [hσ_59, m_wk_7]; exact hB1) (by rw [hσ_59]; intro q hq; rw [m_wk_43]; exact ht1 q hq) (by rw [hσ_59]; exact hI) (by omega) _ _ _ (lv_sub hl [2, 3, 4, 5, 6, 1, 0] rfl) hw
        exact cut_38 _ (x_c b) 0 _ _ _ (eb.2) (rfl) (eb.1) (by rw [hσ_24]; simpa [x_up] using hB) (by rw [hσ_24]; simpa [x_up] using hth) (by rw [hσ_24]) (Nat.lt_succ_self _) _ _ _ (lv_sub hl [2, 3, 4, 5, 6, 1, 0] rfl) hw
      · refine lv_iconst (v := 0) hx hb dX7_works_30 (by decide) ?_
        exact xr_i hc hlocks hr rfl hw (⟨fun _ h => absurd h (x_if0 hr_24 c_27), fun h => absurd hP h, fun _ _ => by rw [hσ_24, if_neg (x_if0 hr_24 c_27)]⟩) (Nat.le_of_ble_eq_true rfl) (Nat.le_of_ble_eq_true rfl) dX7_works_31
    refine lv_aload_n hx hb dX7_works_8 rfl (lv_at hl 0 rfl) ?_
    refine lv_iload_n hx hb dX7_works_9 rfl (lv_at hl 2 rfl) ?_
    refine lv_if_lt (tgt := 22) hx hb dX7_works_10 (by decide) (fun c_10 => ?_) (fun c_10 => ?_)
    · refine lv_iconst (v := 0) hx hb dX7_works_22 (by decide) ?_
      exact cut_23 _ (by simp_all [← Int32.not_le]) _ _ _ (lv_sub hl [0, 1, 2, 3, 4] rfl) hw
    · refine lv_iload_n hx hb dX7_works_13 rfl (lv_at hl 2 rfl) ?_
      refine lv_iload_n hx hb dX7_works_14 rfl (lv_at hl 3 rfl) ?_
      refine lv_icmp_gt (tgt := 22) hx hb dX7_works_15 (by decide) (fun c_15 => ?_) (fun c_15 => ?_)
      · refine lv_iconst (v := 0) hx hb dX7_works_22 (by decide) ?_
        exact cut_23 _ (by simp_all [← Int32.not_le]) _ _ _ (lv_sub hl [0, 1, 2, 3, 4] rfl) hw
      · refine lv_iconst (v := 1) hx hb dX7_works_18 (by decide) ?_
        refine lv_goto (tgt := 23) hx hb dX7_works_19 (by decide) ?_
        exact cut_23 _ (by simp_all [← Int32.not_le]) _ _ _ (lv_sub hl [0, 1, 2, 3, 4] rfl) hw
/-- X7_bleach -/
def q_X7_bleach (σ : x_St) (a b : Int32) (nB : Nat) : Int32 → x_St → Prop := fun r σ' => ((0 ≤ a ∧ a < σ 7 0 1) → 0 ≤ b ∧ b ≤ 9 → r = nI (m_bl a b nB 0 (x_up σ 7 0 0 0) 0).1 ∧ σ' = (m_bl a b nB 0 (x_up σ 7 0 0 0) 0).2) ∧ (¬ (0 ≤ a ∧ a < σ 7 0 1) → σ' = x_up σ 7 0 0 1) ∧ ((0 ≤ a ∧ a < σ 7 0 1) → ¬ (0 ≤ b ∧ b ≤ 9) → σ' = x_up σ 7 0 0 2)
set_option maxHeartbeats 4000000 in
set_option maxRecDepth 100000 in
theorem c_X7_bleach {l : Launch} {D : va_G} {cs : Nat → ClassId} {base : Nat} {ad : Nat → Nat → Nat} {n st : Nat → Nat} {σ : x_St} (a b : Int32) (nS : Nat) (hS : σ 7 0 1 = nI nS) (hS0 : nS ≤ 30) (nB : Nat) (hB : σ 7 0 2 = nI nB) (hB0 : nB ≤ 400) (h7 : 0 < n 7) (hm : ∀ k, 36 ≤ k → k < 70 → 0 < n k ∧ 0 < st (100 + k)) : x_Ci l yX7_bleach cX7_bleach 6 (some .int) 4 0 0 D cs base ad n st σ [.ref (ad 7 0), .int a, .int b] (q_X7_bleach σ a b nB) (fun σ' => x_U D cs base ad n st σ') := by
  refine Met.ofW (cc := cX7_bleach) (maxL := 6) (ret := some .int) (by decide) rfl ?_
  intro p e s m args below meth c s₁ B hml hv
  obtain ⟨rfl, hU⟩ := hv
  have hx := B.exec
  have hb := B.bytes
  have hr := B.returns
  have hts := atoms_spec (ws := Cond.code yX7_bleach cX7_bleach 6 (some .int) :: Tw) B.pre
  have hown : s.vm.findClass RX7 = some m.cls := findClass_of_methodNamed B.named
  have hlocks := B.notSynchronized
  have hc : CallFix p m c cX7_bleach 6 s (([.ref (ad 7 0), .int a, .int b] : List Value).toArray) Tw RX7 := ⟨hx, hb, hml, hown, fun w hw => hts w (List.mem_cons_of_mem _ hw)⟩
  have hw := x_B.start hU
  have hl := lv_entry ([.ref (ad 7 0), .int a, .int b]) (n := 6) (Nat.le_of_ble_eq_true rfl)
  rw [lg_entry_eq]
  generalize (lg_sl ([.ref (ad 7 0), .int a, .int b]) ++ List.replicate (6 - (lg_sl ([.ref (ad 7 0), .int a, .int b])).length) Slot.unset).toArray = ls at hl ⊢
  have hl : lv_has ls 6 [(0, .ref (ad 7 0)), (1, .int a), (2, .int b)] := hl
  show W p l e (x_rm 4 0 0) s m ([.ref (ad 7 0), .int a, .int b] : List Value).toArray below meth c s.heap [] 0 0 (MQ below (va_Qi (q_X7_bleach σ a b nB) (fun σ' => x_U D cs base ad n st σ') (x_A base)) ([.ref (ad 7 0), .int a, .int b] : List Value).toArray s 0 0 (x_A base)) (F0 m 0 ls [])
  refine lv_aload_n hx hb dX7_bleach_0 rfl (lv_at hl 0 rfl) ?_
  refine lv_iload_n hx hb dX7_bleach_1 rfl (lv_at hl 1 rfl) ?_
  refine xc_Vi hc hw 7 0 (c_X7_isShell a h7 hm) rfl rfl (h7) mw_830 mw_827 mw_4 mw_829 mp_19 xd_X7_isShell ⟨by decide, by decide⟩ (rfl) hl.1 (Nat.le_of_ble_eq_true rfl) dX7_bleach_2 ⟨Nat.le_of_ble_eq_true rfl, Nat.le_of_ble_eq_true rfl⟩ (fun r_2 σ_2 H locs hq hw => ?_)
  have hq_2 := hq
  obtain ⟨hr_2, hσ_2⟩ := hq_2
  refine lv_if_eq (tgt := 31) hx hb dX7_bleach_5 (by decide) (fun c_5 => ?_) (fun c_5 => ?_)
  · refine lv_iconst (v := 0) hx hb dX7_bleach_31 (by decide) ?_
    exact xr_i hc hlocks hr rfl hw (⟨fun h => absurd h (x_if0 hr_2 c_5), fun _ => by rw [hσ_2, if_neg (x_if0 hr_2 c_5)], fun h => absurd h (x_if0 hr_2 c_5)⟩) (Nat.le_of_ble_eq_true rfl) (Nat.le_of_ble_eq_true rfl) dX7_bleach_32
  · have hP := x_if1 hr_2 c_5
    have cut_24 : ∀ (g : Int32), (g = if 0 ≤ b ∧ b ≤ 9 then 1 else 0) → ∀ (H : Heap) (locs : List Loc) (ls : Array Slot), lv_has ls 6 [(0, .ref (ad 7 0)), (1, .int a), (2, .int b)] → x_B D cs base ad n st σ_2 s H locs → W p l e (x_rm 4 0 0) s m ([.ref (ad 7 0), .int a, .int b] : List Value).toArray below meth c H locs 0 0 (MQ below (va_Qi (q_X7_bleach σ a b nB) (fun σ' => x_U D cs base ad n st σ') (x_A base)) ([.ref (ad 7 0), .int a, .int b] : List Value).toArray s 0 0 (x_A base)) (F0 m 24 ls [.int g, .ref (ad 7 0)]) := by
      intro g hf H locs ls hl hw
      refine lv_iconst (v := 2) hx hb dX7_bleach_24 (by decide) ?_
      refine xc_Vi hc hw 7 0 (c_X7_right g 2 h7 hm) rfl rfl (h7) mw_834 mw_831 mw_4 mw_833 mp_20 xd_X7_right ⟨by decide, by decide⟩ (rfl) hl.1 (Nat.le_of_ble_eq_true rfl) dX7_bleach_25 ⟨Nat.le_of_ble_eq_true rfl, Nat.le_of_ble_eq_true rfl⟩ (fun r_25 σ_25 H locs hq hw => ?_)
      have hq_25 := hq
      obtain ⟨hr_25, hσ_25⟩ := x_right hq_25 (x_th hσ_2 hP) hf (by decide)
      rw [hσ_2, if_pos hP, x_up_up] at hσ_25
      refine lv_if_ne (tgt := 33) hx hb dX7_bleach_28 (by decide) (fun c_28 => ?_) (fun c_28 => ?_)
      · have hQ := x_if1 hr_25 c_28
        rw [if_pos hQ] at hσ_25
        refine lv_iconst (v := 0) hx hb dX7_bleach_33 (by decide) ?_
        refine lv_istore_n (lv' := [(3, .int 0), (0, .ref (ad 7 0)), (1, .int a), (2, .int b)]) hx hb dX7_bleach_34 rfl hl (by decide) rfl (fun ls hl => ?_)
        refine lv_iconst (v := 0) hx hb dX7_bleach_35 (by decide) ?_
        refine lv_istore (lv' := [(4, .int 0), (3, .int 0), (0, .ref (ad 7 0)), (1, .int a), (2, .int b)]) hx hb dX7_bleach_36 hl (by decide) rfl (fun ls hl => ?_)
        have cut_38 : ∀ (N : Nat) (k : Nat) (cn : Nat) (x3 : Int32) (x4 : Int32) (σc : x_St), (k ≤ nB) → (x3 = nI cn) → (x4 = nI k) → (σc 7 0 2 = nI nB) → (m_bl a b (nB - k) k σc cn = (m_bl a b nB 0 (x_up σ 7 0 0 0) 0)) → (nB - k < N) → ∀ (H : Heap) (locs : List Loc) (ls : Array Slot), lv_has ls 6 [(0, .ref (ad 7 0)), (1, .int a), (2, .int b), (3, .int x3), (4, .int x4)] → x_B D cs base ad n st σc s H locs → W p l e (x_rm 4 0 0) s m ([.ref (ad 7 0), .int a, .int b] : List Value).toArray below meth c H locs 0 0 (MQ below (va_Qi (q_X7_bleach σ a b nB) (fun σ' => x_U D cs base ad n st σ') (x_A base)) ([.ref (ad 7 0), .int a, .int b] : List Value).toArray s 0 0 (x_A base)) (F0 m 38 ls []) := by
          intro N
          induction N with
          | zero => intro k cn x3 x4 σc hk h3 h4 hB1 hI hN; exact absurd hN (Nat.not_lt_zero _)
          | succ N ih_38 =>
            intro k cn x3 x4 σc hk h3 h4 hB1 hI hN H locs ls hl hw
            refine lv_iload hx hb dX7_bleach_38 (lv_at hl 4 rfl) ?_
            refine lv_aload_n hx hb dX7_bleach_40 rfl (lv_at hl 0 rfl) ?_
            refine xg_i hc hw 7 0 2 rfl rfl rfl rfl (by decide) (h7) mw_689 dX7_bleach_41 ?_
            refine lv_icmp_ge (tgt := 139) hx hb dX7_bleach_44 (by decide) (fun c_44 => ?_) (fun c_44 => ?_)
            · refine lv_iload_n hx hb dX7_bleach_139 rfl (lv_at hl 3 rfl) ?_
              exact xr_i hc hlocks hr rfl hw (⟨fun _ _ => by have hz := x_ge h4 hB1 (by omega) (by omega) c_44; rw [show nB - k = 0 by omega, m_bl] at hI; rw [← hI]; exact ⟨h3, rfl⟩, fun h => absurd hP h, fun _ h => absurd hQ h⟩) (Nat.le_of_ble_eq_true rfl) (Nat.le_of_ble_eq_true rfl) dX7_bleach_140
            · have hlt : k < nB := x_nge h4 hB1 (by omega) (by omega) c_44
              have hst : nB - k = (nB - (k + 1)) + 1 := by omega
              rw [hst, m_bl] at hI
              have cut_133 : ∀ (cm : Nat) (y3 : Int32) (σd : x_St), (y3 = nI cm) → (σd 7 0 2 = nI nB) → (m_bl a b (nB - (k + 1)) (k + 1) σd cm = (m_bl a b nB 0 (x_up σ 7 0 0 0) 0)) → ∀ (H : Heap) (locs : List Loc) (ls : Array Slot), lv_has ls 6 [(0, .ref (ad 7 0)), (1, .int a), (2, .int b), (3, .int y3), (4, .int x4)] → x_B D cs base ad n st σd s H locs → W p l e (x_rm 4 0 0) s m ([.ref (ad 7 0), .int a, .int b] : List Value).toArray below meth c H locs 0 0 (MQ below (va_Qi (q_X7_bleach σ a b nB) (fun σ' => x_U D cs base ad n st σ') (x_A base)) ([.ref (ad 7 0), .int a, .int b] : List Value).toArray s 0 0 (x_A base)) (F0 m 133 ls []) := by
                intro cm y3 σd h3d hBd hId H locs ls hl hw
                obtain ⟨x4_133, ex4_133⟩ : ∃ y : Int32, y = x4 + 1 := ⟨_, rfl⟩
                refine lv_iinc (v := x4_133) (lv' := [(4, .int x4_133), (0, .ref (ad 7 0)), (1, .int a), (2, .int b), (3, .int y3)]) hx hb dX7_bleach_133 hl (k := 4) rfl (by rw [ex4_133]; rfl) (by decide) rfl (fun ls hl => ?_)
                refine lv_goto (tgt := 38) hx hb dX7_bleach_136 (by decide) ?_
                exact ih_38 (k + 1) cm _ _ _ (by omega) (h3d) (by rw [ex4_133, h4, nI_1]) (hBd) (hId) (by omega) _ _ _ (lv_sub hl [1, 2, 3, 4, 0] rfl) hw
              refine lv_aload_n hx hb dX7_bleach_47 rfl (lv_at hl 0 rfl) ?_
              refine xg_r hc hw 7 0 15 rfl rfl rfl rfl (by decide) (h7) ((hm 45 (by decide) (by decide)).2) mw_702 dX7_bleach_48 ?_
              refine lv_iload hx hb dX7_bleach_51 (lv_at hl 4 rfl) ?_
              refine xa_ld hc hw 45 0 k rfl ((hm 45 (by decide) (by decide)).1) (h4) (by show _ < 400; omega) dX7_bleach_53 ?_
              refine lv_iload_n hx hb dX7_bleach_54 rfl (lv_at hl 1 rfl) ?_
              refine lv_icmp_ne (tgt := 133) hx hb dX7_bleach_55 (by decide) (fun c_55 => ?_) (fun c_55 => ?_)
              · exact cut_133 _ _ _ (h3) (hB1) (by rw [if_neg (by simp_all)] at hI; exact hI) _ _ _ (lv_sub hl [0, 1, 2, 3, 4] rfl) hw
              · refine lv_aload_n hx hb dX7_bleach_58 rfl (lv_at hl 0 rfl) ?_
                refine xg_r hc hw 7 0 16 rfl rfl rfl rfl (by decide) (h7) ((hm 46 (by decide) (by decide)).2) mw_703 dX7_bleach_59 ?_
                refine lv_iload hx hb dX7_bleach_62 (lv_at hl 4 rfl) ?_
                refine xa_ld hc hw 46 0 k rfl ((hm 46 (by decide) (by decide)).1) (h4) (by show _ < 400; omega) dX7_bleach_64 ?_
                refine lv_iconst (v := 3) hx hb dX7_bleach_65 (by decide) ?_
                refine lv_icmp_eq (tgt := 133) hx hb dX7_bleach_66 (by decide) (fun c_66 => ?_) (fun c_66 => ?_)
                · exact cut_133 _ _ _ (h3) (hB1) (by rw [if_neg (by simp_all)] at hI; exact hI) _ _ _ (lv_sub hl [0, 1, 2, 3, 4] rfl) hw
                · refine lv_aload_n hx hb dX7_bleach_69 rfl (lv_at hl 0 rfl) ?_
                  refine xg_r hc hw 7 0 16 rfl rfl rfl rfl (by decide) (h7) ((hm 46 (by decide) (by decide)).2) mw_703 dX7_bleach_70 ?_
                  refine lv_iload hx hb dX7_bleach_73 (lv_at hl 4 rfl) ?_
                  refine xa_ld hc hw 46 0 k rfl ((hm 46 (by decide) (by decide)).1) (h4) (by show _ < 400; omega) dX7_bleach_75 ?_
                  refine lv_iconst (v := 4) hx hb dX7_bleach_76 (by decide) ?_
                  refine lv_icmp_ne (tgt := 83) hx hb dX7_bleach_77 (by decide) (fun c_77 => ?_) (fun c_77 => ?_)
                  · have cut_107 : ∀ (v5 : Int32), (v5 = m_bv (σc 44 0 k) b) → ∀ (H : Heap) (locs : List Loc) (ls : Array Slot), lv_has ls 6 [(0, .ref (ad 7 0)), (1, .int a), (2, .int b), (3, .int x3), (4, .int x4)] → x_B D cs base ad n st σc s H locs → W p l e (x_rm 4 0 0) s m ([.ref (ad 7 0), .int a, .int b] : List Value).toArray below meth c H locs 0 0 (MQ below (va_Qi (q_X7_bleach σ a b nB) (fun σ' => x_U D cs base ad n st σ') (x_A base)) ([.ref (ad 7 0), .int a, .int b] : List Value).toArray s 0 0 (x_A base)) (F0 m 107 ls [.int v5]) := by
                      intro v5 h5 H locs ls hl hw
                      have hin : σc 45 0 k = a ∧ ¬ (σc 46 0 k = 3 ∨ σc 46 0 k = 4) := by simp_all
                      rw [if_pos hin] at hI
                      refine lv_istore (lv' := [(5, .int v5), (0, .ref (ad 7 0)), (1, .int a), (2, .int b), (3, .int x3), (4, .int x4)]) hx hb dX7_bleach_107 hl (by decide) rfl (fun ls hl => ?_)
                      refine lv_iload hx hb dX7_bleach_109 (lv_at hl 0 rfl) ?_
                      refine lv_aload_n hx hb dX7_bleach_111 rfl (lv_at hl 1 rfl) ?_
                      refine xg_r hc hw 7 0 14 rfl rfl rfl rfl (by decide) (h7) ((hm 44 (by decide) (by decide)).2) mw_701 dX7_bleach_112 ?_
                      refine lv_iload hx hb dX7_bleach_115 (lv_at hl 5 rfl) ?_
                      refine xa_ld hc hw 44 0 k rfl ((hm 44 (by decide) (by decide)).1) (h4) (by show _ < 400; omega) dX7_bleach_117 ?_
                      refine lv_icmp_eq (tgt := 124) hx hb dX7_bleach_118 (by decide) (fun c_118 => ?_) (fun c_118 => ?_)
                      · refine lv_aload_n hx hb dX7_bleach_124 rfl (lv_at hl 1 rfl) ?_
                        refine xg_r hc hw 7 0 14 rfl rfl rfl rfl (by decide) (h7) ((hm 44 (by decide) (by decide)).2) mw_701 dX7_bleach_125 ?_
                        refine lv_iload hx hb dX7_bleach_128 (lv_at hl 5 rfl) ?_
                        refine lv_iload hx hb dX7_bleach_130 (lv_at hl 0 rfl) ?_
                        refine xa_st hc hw 44 0 k rfl ((hm 44 (by decide) (by decide)).1) (h4) (by show _ < 400; omega) dX7_bleach_132 (fun H locs hw => ?_)
                        exact cut_133 (cn + if m_bv (σc 44 0 k) b = σc 44 0 k then 0 else 1) _ _ (by first | (rw [ex3_121, h3, nI_1, if_neg (fun q => c_118 (h5.trans q))]) | (rw [h3, if_pos (h5.symm.trans c_118), Nat.add_zero])) (by simpa [x_up] using hB1) (by rw [h5]; exact hI) _ _ _ (lv_sub hl [1, 2, 3, 4, 5] rfl) hw
                      · obtain ⟨x3_121, ex3_121⟩ : ∃ y : Int32, y = x3 + 1 := ⟨_, rfl⟩
                        refine lv_iinc (v := x3_121) (lv' := [(3, .int x3_121), (5, .int v5), (0, .ref (ad 7 0)), (1, .int a), (2, .int b), (4, .int x4)]) hx hb dX7_bleach_121 hl (k := 4) rfl (by rw [ex3_121]; rfl) (by decide) rfl (fun ls hl => ?_)
                        refine lv_aload_n hx hb dX7_bleach_124 rfl (lv_at hl 2 rfl) ?_
                        refine xg_r hc hw 7 0 14 rfl rfl rfl rfl (by decide) (h7) ((hm 44 (by decide) (by decide)).2) mw_701 dX7_bleach_125 ?_
                        refine lv_iload hx hb dX7_bleach_128 (lv_at hl 5 rfl) ?_
                        refine lv_iload hx hb dX7_bleach_130 (lv_at hl 1 rfl) ?_
                        refine xa_st hc hw 44 0 k rfl ((hm 44 (by decide) (by decide)).1) (h4) (by show _ < 400; omega) dX7_bleach_132 (fun H locs hw => ?_)
                        exact cut_133 (cn + if m_bv (σc 44 0 k) b = σc 44 0 k then 0 else 1) _ _ (by first | (rw [ex3_121, h3, nI_1, if_neg (fun q => c_118 (h5.trans q))]) | (rw [h3, if_pos (h5.symm.trans c_118), Nat.add_zero])) (by simpa [x_up] using hB1) (by rw [h5]; exact hI) _ _ _ (lv_sub hl [2, 3, 4, 0, 5] rfl) hw
                    refine lv_aload_n hx hb dX7_bleach_83 rfl (lv_at hl 0 rfl) ?_
                    refine xg_r hc hw 7 0 14 rfl rfl rfl rfl (by decide) (h7) ((hm 44 (by decide) (by decide)).2) mw_701 dX7_bleach_84 ?_
                    refine lv_iload hx hb dX7_bleach_87 (lv_at hl 4 rfl) ?_
                    refine xa_ld hc hw 44 0 k rfl ((hm 44 (by decide) (by decide)).1) (h4) (by show _ < 400; omega) dX7_bleach_89 ?_
                    refine lv_iload_n hx hb dX7_bleach_90 rfl (lv_at hl 2 rfl) ?_
                    refine lv_icmp_le (tgt := 106) hx hb dX7_bleach_91 (by decide) (fun c_91 => ?_) (fun c_91 => ?_)
                    · refine lv_iconst (v := 0) hx hb dX7_bleach_106 (by decide) ?_
                      exact cut_107 _ (by simp_all [m_bv, ← Int32.not_le]) _ _ _ (lv_sub hl [0, 1, 2, 3, 4] rfl) hw
                    · refine lv_aload_n hx hb dX7_bleach_94 rfl (lv_at hl 0 rfl) ?_
                      refine xg_r hc hw 7 0 14 rfl rfl rfl rfl (by decide) (h7) ((hm 44 (by decide) (by decide)).2) mw_701 dX7_bleach_95 ?_
                      refine lv_iload hx hb dX7_bleach_98 (lv_at hl 4 rfl) ?_
                      refine xa_ld hc hw 44 0 k rfl ((hm 44 (by decide) (by decide)).1) (h4) (by show _ < 400; omega) dX7_bleach_100 ?_
                      refine lv_iload_n hx hb dX7_bleach_101 rfl (lv_at hl 2 rfl) ?_
                      refine lv_isub hx hb dX7_bleach_102 ?_
                      refine lv_goto (tgt := 107) hx hb dX7_bleach_103 (by decide) ?_
                      exact cut_107 _ (by simp_all [m_bv, ← Int32.not_le]) _ _ _ (lv_sub hl [0, 1, 2, 3, 4] rfl) hw
                  · refine lv_goto (tgt := 133) hx hb dX7_bleach_80 (by decide) ?_
                    exact cut_133 _ _ _ (h3) (hB1) (by rw [if_neg (by simp_all)] at hI; exact hI) _ _ _ (lv_sub hl [0, 1, 2, 3, 4] rfl) hw
        exact cut_38 _ 0 0 _ _ _ (Nat.zero_le _) (rfl) (rfl) (by rw [hσ_25]; simpa [x_up] using hB) (by rw [hσ_25]; rfl) (Nat.lt_succ_self _) _ _ _ (lv_sub hl [2, 3, 4, 1, 0] rfl) hw
      · refine lv_iconst (v := 0) hx hb dX7_bleach_31 (by decide) ?_
        exact xr_i hc hlocks hr rfl hw (⟨fun _ h => absurd h (x_if0 hr_25 c_28), fun h => absurd hP h, fun _ _ => by rw [hσ_25, if_neg (x_if0 hr_25 c_28)]⟩) (Nat.le_of_ble_eq_true rfl) (Nat.le_of_ble_eq_true rfl) dX7_bleach_32
    refine lv_aload_n hx hb dX7_bleach_8 rfl (lv_at hl 0 rfl) ?_
    refine lv_iload_n hx hb dX7_bleach_9 rfl (lv_at hl 2 rfl) ?_
    refine lv_if_lt (tgt := 23) hx hb dX7_bleach_10 (by decide) (fun c_10 => ?_) (fun c_10 => ?_)
    · refine lv_iconst (v := 0) hx hb dX7_bleach_23 (by decide) ?_
      exact cut_24 _ (by simp_all [← Int32.not_le]) _ _ _ (lv_sub hl [0, 1, 2] rfl) hw
    · refine lv_iload_n hx hb dX7_bleach_13 rfl (lv_at hl 2 rfl) ?_
      refine lv_bipush (v := 9) hx hb dX7_bleach_14 (by decide) ?_
      refine lv_icmp_gt (tgt := 23) hx hb dX7_bleach_16 (by decide) (fun c_16 => ?_) (fun c_16 => ?_)
      · refine lv_iconst (v := 0) hx hb dX7_bleach_23 (by decide) ?_
        exact cut_24 _ (by simp_all [← Int32.not_le]) _ _ _ (lv_sub hl [0, 1, 2] rfl) hw
      · refine lv_iconst (v := 1) hx hb dX7_bleach_19 (by decide) ?_
        refine lv_goto (tgt := 24) hx hb dX7_bleach_20 (by decide) ?_
        exact cut_24 _ (by simp_all [← Int32.not_le]) _ _ _ (lv_sub hl [0, 1, 2] rfl) hw
