theorem m_cF_eq {σ σ' : x_St} {sh R C p k z : Nat} {F : Nat → Int32} (h39 : ∀ b d, σ' 39 b d = σ 39 b d) (h41 : ∀ b d, σ' 41 b d = σ 41 b d) : m_cF σ' sh R C p k z F = m_cF σ sh R C p k z F := by
  have hG : m_G σ' sh C = m_G σ sh C := by funext y x; exact h39 _ _
  have ht : m_t σ' sh R C p z = m_t σ sh R C p z := by rw [m_t, m_t, hG]
  rw [m_cF, m_cF, ht, h41]
theorem m_F_cong {σ σ' : x_St} {sh R C : Nat} (h39 : ∀ b d, σ' 39 b d = σ 39 b d) (h41 : ∀ b d, σ' 41 b d = σ 41 b d) : ∀ f, m_F σ' sh R C f = m_F σ sh R C f
  | 0 => rfl
  | f + 1 => by
    funext k
    rw [m_F, m_F, m_F_cong h39 h41 f]
    exact m_mxf_cong 4 0 _ (fun z _ => m_cF_eq h39 h41)
def m_fk (σ : x_St) (i : Nat) : Prop :=
  σ 37 0 i = nI (x_c (σ 37 0 i)) ∧ 1 ≤ x_c (σ 37 0 i) ∧ x_c (σ 37 0 i) ≤ 6 ∧ σ 36 0 i = nI (x_c (σ 36 0 i)) ∧ x_c (σ 36 0 i) ≤ 6 ∧
  (∀ y x, y < x_c (σ 36 0 i) → x < x_c (σ 37 0 i) → ∃ t, t ≤ 9 ∧ m_G σ i (x_c (σ 37 0 i)) y x = nI t) ∧
  (∀ p k, p < x_c (σ 36 0 i) * x_c (σ 37 0 i) → k < 4 ^ x_c (σ 37 0 i) → ¬ m_F σ i (x_c (σ 36 0 i)) (x_c (σ 37 0 i)) (x_c (σ 36 0 i) * x_c (σ 37 0 i) - p) k = -1000000 ∧ ∃ z, z ≤ 3 ∧ m_cF σ i (x_c (σ 36 0 i)) (x_c (σ 37 0 i)) p k z (m_F σ i (x_c (σ 36 0 i)) (x_c (σ 37 0 i)) (x_c (σ 36 0 i) * x_c (σ 37 0 i) - (p + 1))) = m_F σ i (x_c (σ 36 0 i)) (x_c (σ 37 0 i)) (x_c (σ 36 0 i) * x_c (σ 37 0 i) - p) k)
theorem m_fk_cong {σ σ' : x_St} {i : Nat} (h : ∀ k b d, k = 36 ∨ k = 37 ∨ k = 39 ∨ k = 41 → σ' k b d = σ k b d) (ho : m_fk σ i) : m_fk σ' i := by
  unfold m_fk at ho ⊢
  have h36 := h 36 0 i (by simp)
  have h37 := h 37 0 i (by simp)
  have hG : ∀ C, m_G σ' i C = m_G σ i C := fun C => by funext y x; exact h 39 _ _ (by simp)
  rw [h36, h37]
  simp only [hG, m_F_cong (fun b d => h 39 b d (by simp)) (fun b d => h 41 b d (by simp)), m_cF_eq (fun b d => h 39 b d (by simp)) (fun b d => h 41 b d (by simp))]
  exact ho
theorem m_fk_up {σ : x_St} {i j : Nat} {v : Int32} (ho : m_fk σ i) : m_fk (x_up σ 7 0 j v) i := m_fk_cong (fun k b d hk => x_up_n (fun z => by omega)) ho
def m_fd (σ : x_St) (i : Nat) (σ1 : x_St) : x_St := m_fw σ i (x_c (σ 36 0 i)) (x_c (σ 37 0 i)) (x_c (σ 36 0 i) * x_c (σ 37 0 i)) 0 (x_up (x_up σ1 7 0 40 0) 7 0 41 0)

/-- X7_best -/
def q_X7_best (σ : x_St) (a b : Int32) : Int32 → x_St → Prop := fun r σ' => ((0 ≤ a ∧ a < σ 7 0 1) ∧ (b = 0 ∨ b = 1) → (∃ σ1 : x_St, (∀ x y d, x ≠ 68 → σ1 x y d = x_up σ 7 0 0 0 x y d) ∧ σ' = m_fd (x_up σ 7 0 0 0) (x_c a) σ1) ∧ r = if b = 0 then σ' 7 0 41 else σ' 7 0 40) ∧ (¬ ((0 ≤ a ∧ a < σ 7 0 1) ∧ (b = 0 ∨ b = 1)) → σ' = x_up σ 7 0 0 1)
set_option maxHeartbeats 4000000 in
set_option maxRecDepth 100000 in
theorem c_X7_best {l : Launch} {D : va_G} {cs : Nat → ClassId} {base : Nat} {ad : Nat → Nat → Nat} {n st : Nat → Nat} {σ : x_St} (a b : Int32) (nS : Nat) (hS : σ 7 0 1 = nI nS) (hS0 : nS ≤ 30) (hok : ∀ i, i < nS → m_fk σ i) (h7 : 0 < n 7) (hm : ∀ k, 36 ≤ k → k < 70 → 0 < n k ∧ 0 < st (100 + k)) : x_Ci l yX7_best cX7_best 3 (some .int) 4 0 0 D cs base ad n st σ [.ref (ad 7 0), .int a, .int b] (q_X7_best σ a b) (fun σ' => x_U D cs base ad n st σ') := by
  refine Met.ofW (cc := cX7_best) (maxL := 3) (ret := some .int) (by decide) rfl ?_
  intro p e s m args below meth c s₁ B hml hv
  obtain ⟨rfl, hU⟩ := hv
  have hx := B.exec
  have hb := B.bytes
  have hr := B.returns
  have hts := atoms_spec (ws := Cond.code yX7_best cX7_best 3 (some .int) :: Tw) B.pre
  have hown : s.vm.findClass RX7 = some m.cls := findClass_of_methodNamed B.named
  have hlocks := B.notSynchronized
  have hc : CallFix p m c cX7_best 3 s (([.ref (ad 7 0), .int a, .int b] : List Value).toArray) Tw RX7 := ⟨hx, hb, hml, hown, fun w hw => hts w (List.mem_cons_of_mem _ hw)⟩
  have hw := x_B.start hU
  have hl := lv_entry ([.ref (ad 7 0), .int a, .int b]) (n := 3) (Nat.le_of_ble_eq_true rfl)
  rw [lg_entry_eq]
  generalize (lg_sl ([.ref (ad 7 0), .int a, .int b]) ++ List.replicate (3 - (lg_sl ([.ref (ad 7 0), .int a, .int b])).length) Slot.unset).toArray = ls at hl ⊢
  have hl : lv_has ls 3 [(0, .ref (ad 7 0)), (1, .int a), (2, .int b)] := hl
  show W p l e (x_rm 4 0 0) s m ([.ref (ad 7 0), .int a, .int b] : List Value).toArray below meth c s.heap [] 0 0 (MQ below (va_Qi (q_X7_best σ a b) (fun σ' => x_U D cs base ad n st σ') (x_A base)) ([.ref (ad 7 0), .int a, .int b] : List Value).toArray s 0 0 (x_A base)) (F0 m 0 ls [])
  refine lv_aload_n hx hb dX7_best_0 rfl (lv_at hl 0 rfl) ?_
  refine lv_iload_n hx hb dX7_best_1 rfl (lv_at hl 1 rfl) ?_
  refine xc_Vi hc hw 7 0 (c_X7_isShell a h7 hm) rfl rfl (h7) mw_830 mw_827 mw_4 mw_829 mp_19 xd_X7_isShell ⟨by decide, by decide⟩ (rfl) hl.1 (Nat.le_of_ble_eq_true rfl) dX7_best_2 ⟨Nat.le_of_ble_eq_true rfl, Nat.le_of_ble_eq_true rfl⟩ (fun r_2 σ_2 H locs hq hw => ?_)
  have hq_2 := hq
  obtain ⟨hr_2, hσ_2⟩ := hq_2
  refine lv_if_eq (tgt := 30) hx hb dX7_best_5 (by decide) (fun c_5 => ?_) (fun c_5 => ?_)
  · refine lv_iconst (v := 0) hx hb dX7_best_30 (by decide) ?_
    exact xr_i hc hlocks hr rfl hw (⟨fun h => absurd h.1 (x_if0 hr_2 c_5), fun _ => by rw [hσ_2, if_neg (x_if0 hr_2 c_5)]⟩) (Nat.le_of_ble_eq_true rfl) (Nat.le_of_ble_eq_true rfl) dX7_best_31
  · have hP := x_if1 hr_2 c_5
    have cut_23 : ∀ (f : Int32), (f = if (b = 0 ∨ b = 1) then 1 else 0) → ∀ (H : Heap) (locs : List Loc) (ls : Array Slot), lv_has ls 3 [(0, .ref (ad 7 0)), (1, .int a), (2, .int b)] → x_B D cs base ad n st σ_2 s H locs → W p l e (x_rm 4 0 0) s m ([.ref (ad 7 0), .int a, .int b] : List Value).toArray below meth c H locs 0 0 (MQ below (va_Qi (q_X7_best σ a b) (fun σ' => x_U D cs base ad n st σ') (x_A base)) ([.ref (ad 7 0), .int a, .int b] : List Value).toArray s 0 0 (x_A base)) (F0 m 23 ls [.int f, .ref (ad 7 0)]) := by
      intro f hf H locs ls hl hw
      refine lv_iconst (v := 1) hx hb dX7_best_23 (by decide) ?_
      refine xc_Vi hc hw 7 0 (c_X7_right f 1 h7 hm) rfl rfl (h7) mw_834 mw_831 mw_4 mw_833 mp_20 xd_X7_right ⟨by decide, by decide⟩ (rfl) hl.1 (Nat.le_of_ble_eq_true rfl) dX7_best_24 ⟨Nat.le_of_ble_eq_true rfl, Nat.le_of_ble_eq_true rfl⟩ (fun r_24 σ_24 H locs hq hw => ?_)
      have hq_24 := hq
      obtain ⟨hr_24, hσ_24⟩ := x_right hq_24 (x_th hσ_2 hP) hf (by decide)
      rw [hσ_2, if_pos hP, x_up_up] at hσ_24
      refine lv_if_ne (tgt := 32) hx hb dX7_best_27 (by decide) (fun c_27 => ?_) (fun c_27 => ?_)
      · have hQ := x_if1 hr_24 c_27
        rw [if_pos hQ] at hσ_24
        rw [hσ_24] at hw
        obtain ⟨ok1, ok2, ok3, ok4, ok5, ok6, ok7⟩ := m_fk_up (j := 0) (v := 0) (hok (x_c a) (x_ix hP.1 hP.2 hS (by omega)).2)
        refine lv_aload_n hx hb dX7_best_32 rfl (lv_at hl 0 rfl) ?_
        refine lv_iload_n hx hb dX7_best_33 rfl (lv_at hl 1 rfl) ?_
        refine xc_Vv hc hw 7 0 (c_X7_finds (x_c a) (x_c (x_up σ 7 0 0 0 37 0 (x_c a))) (Nat.lt_of_lt_of_le (x_ix hP.1 hP.2 hS (by omega)).2 hS0) ok1 ok2 ok3 (x_c (x_up σ 7 0 0 0 36 0 (x_c a))) ok4 ok5 ok6 ok7 h7 hm) rfl rfl (h7) mw_846 mw_843 mw_4 mw_845 mp_21 xd_X7_finds ⟨by decide, by decide⟩ (by rw [← (x_ix hP.1 hP.2 hS (by omega)).1]; rfl) hl.1 (Nat.le_of_ble_eq_true rfl) dX7_best_34 ⟨Nat.le_of_ble_eq_true rfl, Nat.le_of_ble_eq_true rfl⟩ (fun σ_34 H locs hq hw => ?_)
        have hq_34 := hq
        refine lv_iload_n hx hb dX7_best_37 rfl (lv_at hl 2 rfl) ?_
        refine lv_if_ne (tgt := 48) hx hb dX7_best_38 (by decide) (fun c_38 => ?_) (fun c_38 => ?_)
        · refine lv_aload_n hx hb dX7_best_48 rfl (lv_at hl 0 rfl) ?_
          refine xg_i hc hw 7 0 40 rfl rfl rfl rfl (by decide) (h7) mw_727 dX7_best_49 ?_
          exact xr_i hc hlocks hr rfl hw (⟨fun _ => ⟨hq_34, by first | exact (if_pos c_38).symm | exact (if_neg c_38).symm⟩, fun h => absurd ⟨hP, hQ⟩ h⟩) (Nat.le_of_ble_eq_true rfl) (Nat.le_of_ble_eq_true rfl) dX7_best_52
        · refine lv_aload_n hx hb dX7_best_41 rfl (lv_at hl 0 rfl) ?_
          refine xg_i hc hw 7 0 41 rfl rfl rfl rfl (by decide) (h7) mw_728 dX7_best_42 ?_
          refine lv_goto (tgt := 52) hx hb dX7_best_45 (by decide) ?_
          exact xr_i hc hlocks hr rfl hw (⟨fun _ => ⟨hq_34, by first | exact (if_pos c_38).symm | exact (if_neg c_38).symm⟩, fun h => absurd ⟨hP, hQ⟩ h⟩) (Nat.le_of_ble_eq_true rfl) (Nat.le_of_ble_eq_true rfl) dX7_best_52
      · refine lv_iconst (v := 0) hx hb dX7_best_30 (by decide) ?_
        exact xr_i hc hlocks hr rfl hw (⟨fun h => absurd h.2 (x_if0 hr_24 c_27), fun _ => by rw [hσ_24, if_neg (x_if0 hr_24 c_27)]⟩) (Nat.le_of_ble_eq_true rfl) (Nat.le_of_ble_eq_true rfl) dX7_best_31
    refine lv_aload_n hx hb dX7_best_8 rfl (lv_at hl 0 rfl) ?_
    refine lv_iload_n hx hb dX7_best_9 rfl (lv_at hl 2 rfl) ?_
    refine lv_if_eq (tgt := 18) hx hb dX7_best_10 (by decide) (fun c_10 => ?_) (fun c_10 => ?_)
    · refine lv_iconst (v := 1) hx hb dX7_best_18 (by decide) ?_
      refine lv_goto (tgt := 23) hx hb dX7_best_19 (by decide) ?_
      exact cut_23 _ (by simp_all [← Int32.not_le]) _ _ _ (lv_sub hl [0, 1, 2] rfl) hw
    · refine lv_iload_n hx hb dX7_best_13 rfl (lv_at hl 2 rfl) ?_
      refine lv_iconst (v := 1) hx hb dX7_best_14 (by decide) ?_
      refine lv_icmp_ne (tgt := 22) hx hb dX7_best_15 (by decide) (fun c_15 => ?_) (fun c_15 => ?_)
      · refine lv_iconst (v := 0) hx hb dX7_best_22 (by decide) ?_
        exact cut_23 _ (by simp_all [← Int32.not_le]) _ _ _ (lv_sub hl [0, 1, 2] rfl) hw
      · refine lv_iconst (v := 1) hx hb dX7_best_18 (by decide) ?_
        refine lv_goto (tgt := 23) hx hb dX7_best_19 (by decide) ?_
        exact cut_23 _ (by simp_all [← Int32.not_le]) _ _ _ (lv_sub hl [0, 1, 2] rfl) hw
/-- X7_bestAt -/
def q_X7_bestAt (σ : x_St) (a b : Int32) : Int32 → x_St → Prop := fun r σ' => ((0 ≤ a ∧ a < σ 7 0 1) ∧ (0 ≤ b ∧ b < σ 36 0 (x_c a) * σ 37 0 (x_c a)) → (∃ σ1 : x_St, (∀ x y d, x ≠ 68 → σ1 x y d = x_up σ 7 0 0 0 x y d) ∧ σ' = m_fd (x_up σ 7 0 0 0) (x_c a) σ1) ∧ r = σ' 69 0 (x_c b)) ∧ (¬ ((0 ≤ a ∧ a < σ 7 0 1) ∧ (0 ≤ b ∧ b < σ 36 0 (x_c a) * σ 37 0 (x_c a))) → σ' = x_up σ 7 0 0 1)
set_option maxHeartbeats 4000000 in
set_option maxRecDepth 100000 in
theorem c_X7_bestAt {l : Launch} {D : va_G} {cs : Nat → ClassId} {base : Nat} {ad : Nat → Nat → Nat} {n st : Nat → Nat} {σ : x_St} (a b : Int32) (nS : Nat) (hS : σ 7 0 1 = nI nS) (hS0 : nS ≤ 30) (hok : ∀ i, i < nS → m_fk σ i) (h7 : 0 < n 7) (hm : ∀ k, 36 ≤ k → k < 70 → 0 < n k ∧ 0 < st (100 + k)) : x_Ci l yX7_bestAt cX7_bestAt 3 (some .int) 4 0 0 D cs base ad n st σ [.ref (ad 7 0), .int a, .int b] (q_X7_bestAt σ a b) (fun σ' => x_U D cs base ad n st σ') := by
  refine Met.ofW (cc := cX7_bestAt) (maxL := 3) (ret := some .int) (by decide) rfl ?_
  intro p e s m args below meth c s₁ B hml hv
  obtain ⟨rfl, hU⟩ := hv
  have hx := B.exec
  have hb := B.bytes
  have hr := B.returns
  have hts := atoms_spec (ws := Cond.code yX7_bestAt cX7_bestAt 3 (some .int) :: Tw) B.pre
  have hown : s.vm.findClass RX7 = some m.cls := findClass_of_methodNamed B.named
  have hlocks := B.notSynchronized
  have hc : CallFix p m c cX7_bestAt 3 s (([.ref (ad 7 0), .int a, .int b] : List Value).toArray) Tw RX7 := ⟨hx, hb, hml, hown, fun w hw => hts w (List.mem_cons_of_mem _ hw)⟩
  have hw := x_B.start hU
  have hl := lv_entry ([.ref (ad 7 0), .int a, .int b]) (n := 3) (Nat.le_of_ble_eq_true rfl)
  rw [lg_entry_eq]
  generalize (lg_sl ([.ref (ad 7 0), .int a, .int b]) ++ List.replicate (3 - (lg_sl ([.ref (ad 7 0), .int a, .int b])).length) Slot.unset).toArray = ls at hl ⊢
  have hl : lv_has ls 3 [(0, .ref (ad 7 0)), (1, .int a), (2, .int b)] := hl
  show W p l e (x_rm 4 0 0) s m ([.ref (ad 7 0), .int a, .int b] : List Value).toArray below meth c s.heap [] 0 0 (MQ below (va_Qi (q_X7_bestAt σ a b) (fun σ' => x_U D cs base ad n st σ') (x_A base)) ([.ref (ad 7 0), .int a, .int b] : List Value).toArray s 0 0 (x_A base)) (F0 m 0 ls [])
  refine lv_aload_n hx hb dX7_bestAt_0 rfl (lv_at hl 0 rfl) ?_
  refine lv_iload_n hx hb dX7_bestAt_1 rfl (lv_at hl 1 rfl) ?_
  refine xc_Vi hc hw 7 0 (c_X7_isShell a h7 hm) rfl rfl (h7) mw_830 mw_827 mw_4 mw_829 mp_19 xd_X7_isShell ⟨by decide, by decide⟩ (rfl) hl.1 (Nat.le_of_ble_eq_true rfl) dX7_bestAt_2 ⟨Nat.le_of_ble_eq_true rfl, Nat.le_of_ble_eq_true rfl⟩ (fun r_2 σ_2 H locs hq hw => ?_)
  have hq_2 := hq
  obtain ⟨hr_2, hσ_2⟩ := hq_2
  refine lv_if_eq (tgt := 42) hx hb dX7_bestAt_5 (by decide) (fun c_5 => ?_) (fun c_5 => ?_)
  · refine lv_iconst (v := 0) hx hb dX7_bestAt_42 (by decide) ?_
    exact xr_i hc hlocks hr rfl hw (⟨fun h => absurd h.1 (x_if0 hr_2 c_5), fun _ => by rw [hσ_2, if_neg (x_if0 hr_2 c_5)]⟩) (Nat.le_of_ble_eq_true rfl) (Nat.le_of_ble_eq_true rfl) dX7_bestAt_43
  · have hP := x_if1 hr_2 c_5
    have g36 : σ_2 36 0 (x_c a) = σ 36 0 (x_c a) := (by rw [hσ_2]; exact x_up_n (by simp))
    have g37 : σ_2 37 0 (x_c a) = σ 37 0 (x_c a) := (by rw [hσ_2]; exact x_up_n (by simp))
    have cut_35 : ∀ (f : Int32), (f = if (0 ≤ b ∧ b < σ 36 0 (x_c a) * σ 37 0 (x_c a)) then 1 else 0) → ∀ (H : Heap) (locs : List Loc) (ls : Array Slot), lv_has ls 3 [(0, .ref (ad 7 0)), (1, .int a), (2, .int b)] → x_B D cs base ad n st σ_2 s H locs → W p l e (x_rm 4 0 0) s m ([.ref (ad 7 0), .int a, .int b] : List Value).toArray below meth c H locs 0 0 (MQ below (va_Qi (q_X7_bestAt σ a b) (fun σ' => x_U D cs base ad n st σ') (x_A base)) ([.ref (ad 7 0), .int a, .int b] : List Value).toArray s 0 0 (x_A base)) (F0 m 35 ls [.int f, .ref (ad 7 0)]) := by
      intro f hf H locs ls hl hw
      refine lv_iconst (v := 1) hx hb dX7_bestAt_35 (by decide) ?_
      refine xc_Vi hc hw 7 0 (c_X7_right f 1 h7 hm) rfl rfl (h7) mw_834 mw_831 mw_4 mw_833 mp_20 xd_X7_right ⟨by decide, by decide⟩ (rfl) hl.1 (Nat.le_of_ble_eq_true rfl) dX7_bestAt_36 ⟨Nat.le_of_ble_eq_true rfl, Nat.le_of_ble_eq_true rfl⟩ (fun r_36 σ_36 H locs hq hw => ?_)
      have hq_36 := hq
      obtain ⟨hr_36, hσ_36⟩ := x_right hq_36 (x_th hσ_2 hP) hf (by decide)
      rw [hσ_2, if_pos hP, x_up_up] at hσ_36
      refine lv_if_ne (tgt := 44) hx hb dX7_bestAt_39 (by decide) (fun c_39 => ?_) (fun c_39 => ?_)
      · have hQ := x_if1 hr_36 c_39
        rw [if_pos hQ] at hσ_36
        rw [hσ_36] at hw
        obtain ⟨ok1, ok2, ok3, ok4, ok5, ok6, ok7⟩ := m_fk_up (j := 0) (v := 0) (hok (x_c a) (x_ix hP.1 hP.2 hS (by omega)).2)
        have hRC : σ 36 0 (x_c a) * σ 37 0 (x_c a) = nI (x_c (σ 36 0 (x_c a)) * x_c (σ 37 0 (x_c a))) := (by rw [← pk_mul]; exact congr (congrArg _ ok4) ok1)
        have h36 : x_c (σ 36 0 (x_c a)) * x_c (σ 37 0 (x_c a)) ≤ 36 := Nat.mul_le_mul ok5 ok3
        refine lv_aload_n hx hb dX7_bestAt_44 rfl (lv_at hl 0 rfl) ?_
        refine lv_iload_n hx hb dX7_bestAt_45 rfl (lv_at hl 1 rfl) ?_
        refine xc_Vv hc hw 7 0 (c_X7_finds (x_c a) (x_c (x_up σ 7 0 0 0 37 0 (x_c a))) (Nat.lt_of_lt_of_le (x_ix hP.1 hP.2 hS (by omega)).2 hS0) ok1 ok2 ok3 (x_c (x_up σ 7 0 0 0 36 0 (x_c a))) ok4 ok5 ok6 ok7 h7 hm) rfl rfl (h7) mw_846 mw_843 mw_4 mw_845 mp_21 xd_X7_finds ⟨by decide, by decide⟩ (by rw [← (x_ix hP.1 hP.2 hS (by omega)).1]; rfl) hl.1 (Nat.le_of_ble_eq_true rfl) dX7_bestAt_46 ⟨Nat.le_of_ble_eq_true rfl, Nat.le_of_ble_eq_true rfl⟩ (fun σ_46 H locs hq hw => ?_)
        have hq_46 := hq
        refine lv_aload_n hx hb dX7_bestAt_49 rfl (lv_at hl 0 rfl) ?_
        refine xg_r hc hw 7 0 39 rfl rfl rfl rfl (by decide) (h7) ((hm 69 (by decide) (by decide)).2) mw_726 dX7_bestAt_50 ?_
        refine lv_iload_n hx hb dX7_bestAt_53 rfl (lv_at hl 2 rfl) ?_
        refine xa_ld hc hw 69 0 (x_c b) rfl ((hm 69 (by decide) (by decide)).1) ((x_ix hQ.1 hQ.2 hRC (by omega)).1) (Nat.lt_of_lt_of_le (x_ix hQ.1 hQ.2 hRC (by omega)).2 h36) dX7_bestAt_54 ?_
        exact xr_i hc hlocks hr rfl hw (⟨fun _ => ⟨hq_46, rfl⟩, fun h => absurd ⟨hP, hQ⟩ h⟩) (Nat.le_of_ble_eq_true rfl) (Nat.le_of_ble_eq_true rfl) dX7_bestAt_55
      · refine lv_iconst (v := 0) hx hb dX7_bestAt_42 (by decide) ?_
        exact xr_i hc hlocks hr rfl hw (⟨fun h => absurd h.2 (x_if0 hr_36 c_39), fun _ => by rw [hσ_36, if_neg (x_if0 hr_36 c_39)]⟩) (Nat.le_of_ble_eq_true rfl) (Nat.le_of_ble_eq_true rfl) dX7_bestAt_43
    refine lv_aload_n hx hb dX7_bestAt_8 rfl (lv_at hl 0 rfl) ?_
    refine lv_iload_n hx hb dX7_bestAt_9 rfl (lv_at hl 2 rfl) ?_
    refine lv_if_lt (tgt := 34) hx hb dX7_bestAt_10 (by decide) (fun c_10 => ?_) (fun c_10 => ?_)
    · refine lv_iconst (v := 0) hx hb dX7_bestAt_34 (by decide) ?_
      exact cut_35 _ (by simp only [g36, g37] at *; simp_all [← Int32.not_le]) _ _ _ (lv_sub hl [0, 1, 2] rfl) hw
    · refine lv_iload_n hx hb dX7_bestAt_13 rfl (lv_at hl 2 rfl) ?_
      refine lv_aload_n hx hb dX7_bestAt_14 rfl (lv_at hl 0 rfl) ?_
      refine xg_r hc hw 7 0 6 rfl rfl rfl rfl (by decide) (h7) ((hm 36 (by decide) (by decide)).2) mw_693 dX7_bestAt_15 ?_
      refine lv_iload_n hx hb dX7_bestAt_18 rfl (lv_at hl 1 rfl) ?_
      refine xa_ld hc hw 36 0 (x_c a) rfl ((hm 36 (by decide) (by decide)).1) ((x_ix hP.1 hP.2 hS (by omega)).1) (Nat.lt_of_lt_of_le (x_ix hP.1 hP.2 hS (by omega)).2 hS0) dX7_bestAt_19 ?_
      refine lv_aload_n hx hb dX7_bestAt_20 rfl (lv_at hl 0 rfl) ?_
      refine xg_r hc hw 7 0 7 rfl rfl rfl rfl (by decide) (h7) ((hm 37 (by decide) (by decide)).2) mw_694 dX7_bestAt_21 ?_
      refine lv_iload_n hx hb dX7_bestAt_24 rfl (lv_at hl 1 rfl) ?_
      refine xa_ld hc hw 37 0 (x_c a) rfl ((hm 37 (by decide) (by decide)).1) ((x_ix hP.1 hP.2 hS (by omega)).1) (Nat.lt_of_lt_of_le (x_ix hP.1 hP.2 hS (by omega)).2 hS0) dX7_bestAt_25 ?_
      refine lv_imul hx hb dX7_bestAt_26 ?_
      refine lv_icmp_ge (tgt := 34) hx hb dX7_bestAt_27 (by decide) (fun c_27 => ?_) (fun c_27 => ?_)
      · refine lv_iconst (v := 0) hx hb dX7_bestAt_34 (by decide) ?_
        exact cut_35 _ (by simp only [g36, g37] at *; simp_all [← Int32.not_le]) _ _ _ (lv_sub hl [0, 1, 2] rfl) hw
      · refine lv_iconst (v := 1) hx hb dX7_bestAt_30 (by decide) ?_
        refine lv_goto (tgt := 35) hx hb dX7_bestAt_31 (by decide) ?_
        exact cut_35 _ (by simp only [g36, g37] at *; simp_all [← Int32.not_le]) _ _ _ (lv_sub hl [0, 1, 2] rfl) hw
