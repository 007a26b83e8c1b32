theorem x_up_up (σ : x_St) (k i j : Nat) (a b : Int32) : x_up (x_up σ k i j a) k i j b = x_up σ k i j b := by
  funext x y z
  simp only [x_up]
  split <;> rfl
theorem x_up_id {σ : x_St} {k i j : Nat} {a : Int32} (h : σ k i j = a) : x_up σ k i j a = σ := by
  funext x y z
  simp only [x_up]
  split
  · rename_i q; obtain ⟨rfl, rfl, rfl⟩ := q; exact h.symm
  · rfl
abbrev x_c (x : Int32) : Nat := x.toNatClampNeg
theorem x_ix {x y : Int32} {N : Nat} (h0 : 0 ≤ x) (h1 : x < y) (hy : y = nI N) (hN : N < 2 ^ 31) : x = nI (x_c x) ∧ x_c x < N := by
  subst hy
  rcases pk_ix x hN with h | h | ⟨j, hj, rfl⟩
  · exact absurd h0 (Int32.not_le.mpr h)
  · exact absurd h (Int32.not_le.mpr h1)
  · rw [x_c, nI_clamp (Nat.lt_trans hj hN)]
    exact ⟨rfl, hj⟩
theorem x_ixle {x y : Int32} {N : Nat} (h0 : 0 ≤ x) (h1 : x ≤ y) (hy : y = nI N) (hN : N + 1 < 2 ^ 31) : x = nI (x_c x) ∧ x_c x ≤ N := by
  subst hy
  have hl : ¬ nI (N + 1) ≤ x := fun h => by
    have a1 := Int32.le_iff_toInt_le.mp h1
    have a2 := Int32.le_iff_toInt_le.mp h
    rw [nI_toInt (by omega)] at a1 a2
    omega
  rcases pk_ix x hN with h | h | ⟨j, hj, rfl⟩
  · exact absurd h0 (Int32.not_le.mpr h)
  · exact absurd h hl
  · rw [x_c, nI_clamp (Nat.lt_trans hj hN)]
    exact ⟨rfl, by omega⟩

/-- X7_thrown -/
def q_X7_thrown (σ : x_St) : Int32 → x_St → Prop := fun r σ' => σ' = σ ∧ r = σ 7 0 0
set_option maxHeartbeats 4000000 in
set_option maxRecDepth 100000 in
theorem c_X7_thrown {l : Launch} {D : va_G} {cs : Nat → ClassId} {base : Nat} {ad : Nat → Nat → Nat} {n st : Nat → Nat} {σ : x_St} (h7 : 0 < n 7) (hm : ∀ k, 36 ≤ k → k < 70 → 0 < n k ∧ 0 < st (100 + k)) : x_Ci l yX7_thrown cX7_thrown 1 (some .int) 1 0 0 D cs base ad n st σ [.ref (ad 7 0)] (q_X7_thrown σ) (fun σ' => x_U D cs base ad n st σ') := by
  refine Met.ofW (cc := cX7_thrown) (maxL := 1) (ret := some .int) (by decide) rfl ?_
  intro p e s m args below meth c s₁ B hml hv
  obtain ⟨rfl, hU⟩ := hv
  have hx := B.exec
  have hb := B.bytes
  have hr := B.returns
  have hts := atoms_spec (ws := Cond.code yX7_thrown cX7_thrown 1 (some .int) :: Tw) B.pre
  have hown : s.vm.findClass RX7 = some m.cls := findClass_of_methodNamed B.named
  have hlocks := B.notSynchronized
  have hc : CallFix p m c cX7_thrown 1 s (([.ref (ad 7 0)] : List Value).toArray) Tw RX7 := ⟨hx, hb, hml, hown, fun w hw => hts w (List.mem_cons_of_mem _ hw)⟩
  have hw := x_B.start hU
  have hl := lv_entry ([.ref (ad 7 0)]) (n := 1) (Nat.le_of_ble_eq_true rfl)
  rw [lg_entry_eq]
  generalize (lg_sl ([.ref (ad 7 0)]) ++ List.replicate (1 - (lg_sl ([.ref (ad 7 0)])).length) Slot.unset).toArray = ls at hl ⊢
  have hl : lv_has ls 1 [(0, .ref (ad 7 0))] := hl
  show W p l e (x_rm 1 0 0) s m ([.ref (ad 7 0)] : List Value).toArray below meth c s.heap [] 0 0 (MQ below (va_Qi (q_X7_thrown σ) (fun σ' => x_U D cs base ad n st σ') (x_A base)) ([.ref (ad 7 0)] : List Value).toArray s 0 0 (x_A base)) (F0 m 0 ls [])
  refine lv_aload_n hx hb dX7_thrown_0 rfl (lv_at hl 0 rfl) ?_
  refine xg_i hc hw 7 0 0 rfl rfl rfl rfl (by decide) (h7) mw_687 dX7_thrown_1 ?_
  exact xr_i hc hlocks hr rfl hw (⟨rfl, rfl⟩) (Nat.le_of_ble_eq_true rfl) (Nat.le_of_ble_eq_true rfl) dX7_thrown_4
/-- X7_right -/
def q_X7_right (σ : x_St) (b v : Int32) : Int32 → x_St → Prop := fun r σ' => σ' = (if σ 7 0 0 = 0 ∧ b = 0 then x_up σ 7 0 0 v else σ) ∧ r = if (if σ 7 0 0 = 0 ∧ b = 0 then v else σ 7 0 0) = 0 then 1 else 0
set_option maxHeartbeats 4000000 in
set_option maxRecDepth 100000 in
theorem c_X7_right {l : Launch} {D : va_G} {cs : Nat → ClassId} {base : Nat} {ad : Nat → Nat → Nat} {n st : Nat → Nat} {σ : x_St} (b v : Int32) (h7 : 0 < n 7) (hm : ∀ k, 36 ≤ k → k < 70 → 0 < n k ∧ 0 < st (100 + k)) : x_Ci l yX7_right cX7_right 3 (some .boolean) 1 0 0 D cs base ad n st σ [.ref (ad 7 0), .int b, .int v] (q_X7_right σ b v) (fun σ' => x_U D cs base ad n st σ') := by
  refine Met.ofW (cc := cX7_right) (maxL := 3) (ret := some .boolean) (by decide) rfl ?_
  intro p e s m args below meth c s₁ B hml hv
  obtain ⟨rfl, hU⟩ := hv
  have hx := B.exec
  have hb := B.bytes
  have hr := B.returns
  have hts := atoms_spec (ws := Cond.code yX7_right cX7_right 3 (some .boolean) :: Tw) B.pre
  have hown : s.vm.findClass RX7 = some m.cls := findClass_of_methodNamed B.named
  have hlocks := B.notSynchronized
  have hc : CallFix p m c cX7_right 3 s (([.ref (ad 7 0), .int b, .int v] : List Value).toArray) Tw RX7 := ⟨hx, hb, hml, hown, fun w hw => hts w (List.mem_cons_of_mem _ hw)⟩
  have hw := x_B.start hU
  have hl := lv_entry ([.ref (ad 7 0), .int b, .int v]) (n := 3) (Nat.le_of_ble_eq_true rfl)
  rw [lg_entry_eq]
  generalize (lg_sl ([.ref (ad 7 0), .int b, .int v]) ++ List.replicate (3 - (lg_sl ([.ref (ad 7 0), .int b, .int v])).length) Slot.unset).toArray = ls at hl ⊢
  have hl : lv_has ls 3 [(0, .ref (ad 7 0)), (1, .int b), (2, .int v)] := hl
  show W p l e (x_rm 1 0 0) s m ([.ref (ad 7 0), .int b, .int v] : List Value).toArray below meth c s.heap [] 0 0 (MQ below (va_Qi (q_X7_right σ b v) (fun σ' => x_U D cs base ad n st σ') (x_A base)) ([.ref (ad 7 0), .int b, .int v] : List Value).toArray s 0 0 (x_A base)) (F0 m 0 ls [])
  refine lv_aload_n hx hb dX7_right_0 rfl (lv_at hl 0 rfl) ?_
  refine xg_i hc hw 7 0 0 rfl rfl rfl rfl (by decide) (h7) mw_687 dX7_right_1 ?_
  refine lv_if_ne (tgt := 16) hx hb dX7_right_4 (by decide) (fun c_4 => ?_) (fun c_4 => ?_)
  · refine lv_aload_n hx hb dX7_right_16 rfl (lv_at hl 0 rfl) ?_
    refine xg_i hc hw 7 0 0 rfl rfl rfl rfl (by decide) (h7) mw_687 dX7_right_17 ?_
    refine lv_if_ne (tgt := 27) hx hb dX7_right_20 (by decide) (fun c_20 => ?_) (fun c_20 => ?_)
    · refine lv_iconst (v := 0) hx hb dX7_right_27 (by decide) ?_
      exact xr_i hc hlocks hr rfl hw (by simp_all [q_X7_right, x_up_s]) (Nat.le_of_ble_eq_true rfl) (Nat.le_of_ble_eq_true rfl) dX7_right_28
    · refine lv_iconst (v := 1) hx hb dX7_right_23 (by decide) ?_
      refine lv_goto (tgt := 28) hx hb dX7_right_24 (by decide) ?_
      exact xr_i hc hlocks hr rfl hw (by simp_all [q_X7_right, x_up_s]) (Nat.le_of_ble_eq_true rfl) (Nat.le_of_ble_eq_true rfl) dX7_right_28
  · refine lv_iload_n hx hb dX7_right_7 rfl (lv_at hl 1 rfl) ?_
    refine lv_if_ne (tgt := 16) hx hb dX7_right_8 (by decide) (fun c_8 => ?_) (fun c_8 => ?_)
    · refine lv_aload_n hx hb dX7_right_16 rfl (lv_at hl 0 rfl) ?_
      refine xg_i hc hw 7 0 0 rfl rfl rfl rfl (by decide) (h7) mw_687 dX7_right_17 ?_
      refine lv_if_ne (tgt := 27) hx hb dX7_right_20 (by decide) (fun c_20 => ?_) (fun c_20 => ?_)
      · refine lv_iconst (v := 0) hx hb dX7_right_27 (by decide) ?_
        exact xr_i hc hlocks hr rfl hw (by simp_all [q_X7_right, x_up_s]) (Nat.le_of_ble_eq_true rfl) (Nat.le_of_ble_eq_true rfl) dX7_right_28
      · refine lv_iconst (v := 1) hx hb dX7_right_23 (by decide) ?_
        refine lv_goto (tgt := 28) hx hb dX7_right_24 (by decide) ?_
        exact xr_i hc hlocks hr rfl hw (by simp_all [q_X7_right, x_up_s]) (Nat.le_of_ble_eq_true rfl) (Nat.le_of_ble_eq_true rfl) dX7_right_28
    · refine lv_aload_n hx hb dX7_right_11 rfl (lv_at hl 0 rfl) ?_
      refine lv_iload_n hx hb dX7_right_12 rfl (lv_at hl 2 rfl) ?_
      refine xp_i hc hw 7 0 0 rfl rfl rfl rfl (by decide) (h7) rfl (ty := .int) (by decide +kernel) rfl rfl mw_687 dX7_right_13 (fun H locs hw => ?_)
      refine lv_aload_n hx hb dX7_right_16 rfl (lv_at hl 0 rfl) ?_
      refine xg_i hc hw 7 0 0 rfl rfl rfl rfl (by decide) (h7) mw_687 dX7_right_17 ?_
      refine lv_if_ne (tgt := 27) hx hb dX7_right_20 (by decide) (fun c_20 => ?_) (fun c_20 => ?_)
      · refine lv_iconst (v := 0) hx hb dX7_right_27 (by decide) ?_
        exact xr_i hc hlocks hr rfl hw (by simp_all [q_X7_right, x_up_s]) (Nat.le_of_ble_eq_true rfl) (Nat.le_of_ble_eq_true rfl) dX7_right_28
      · refine lv_iconst (v := 1) hx hb dX7_right_23 (by decide) ?_
        refine lv_goto (tgt := 28) hx hb dX7_right_24 (by decide) ?_
        exact xr_i hc hlocks hr rfl hw (by simp_all [q_X7_right, x_up_s]) (Nat.le_of_ble_eq_true rfl) (Nat.le_of_ble_eq_true rfl) dX7_right_28
/-- X7_isShell -/
def q_X7_isShell (σ : x_St) (a : Int32) : Int32 → x_St → Prop := fun r σ' => r = (if 0 ≤ a ∧ a < σ 7 0 1 then 1 else 0) ∧ σ' = x_up σ 7 0 0 (if 0 ≤ a ∧ a < σ 7 0 1 then 0 else 1)
set_option maxHeartbeats 4000000 in
set_option maxRecDepth 100000 in
theorem c_X7_isShell {l : Launch} {D : va_G} {cs : Nat → ClassId} {base : Nat} {ad : Nat → Nat → Nat} {n st : Nat → Nat} {σ : x_St} (a : Int32) (h7 : 0 < n 7) (hm : ∀ k, 36 ≤ k → k < 70 → 0 < n k ∧ 0 < st (100 + k)) : x_Ci l yX7_isShell cX7_isShell 2 (some .boolean) 2 0 0 D cs base ad n st σ [.ref (ad 7 0), .int a] (q_X7_isShell σ a) (fun σ' => x_U D cs base ad n st σ') := by
  refine Met.ofW (cc := cX7_isShell) (maxL := 2) (ret := some .boolean) (by decide) rfl ?_
  intro p e s m args below meth c s₁ B hml hv
  obtain ⟨rfl, hU⟩ := hv
  have hx := B.exec
  have hb := B.bytes
  have hr := B.returns
  have hts := atoms_spec (ws := Cond.code yX7_isShell cX7_isShell 2 (some .boolean) :: Tw) B.pre
  have hown : s.vm.findClass RX7 = some m.cls := findClass_of_methodNamed B.named
  have hlocks := B.notSynchronized
  have hc : CallFix p m c cX7_isShell 2 s (([.ref (ad 7 0), .int a] : List Value).toArray) Tw RX7 := ⟨hx, hb, hml, hown, fun w hw => hts w (List.mem_cons_of_mem _ hw)⟩
  have hw := x_B.start hU
  have hl := lv_entry ([.ref (ad 7 0), .int a]) (n := 2) (Nat.le_of_ble_eq_true rfl)
  rw [lg_entry_eq]
  generalize (lg_sl ([.ref (ad 7 0), .int a]) ++ List.replicate (2 - (lg_sl ([.ref (ad 7 0), .int a])).length) Slot.unset).toArray = ls at hl ⊢
  have hl : lv_has ls 2 [(0, .ref (ad 7 0)), (1, .int a)] := hl
  show W p l e (x_rm 2 0 0) s m ([.ref (ad 7 0), .int a] : List Value).toArray below meth c s.heap [] 0 0 (MQ below (va_Qi (q_X7_isShell σ a) (fun σ' => x_U D cs base ad n st σ') (x_A base)) ([.ref (ad 7 0), .int a] : List Value).toArray s 0 0 (x_A base)) (F0 m 0 ls [])
  refine lv_aload_n hx hb dX7_isShell_0 rfl (lv_at hl 0 rfl) ?_
  refine lv_iconst (v := 0) hx hb dX7_isShell_1 (by decide) ?_
  refine xp_i hc hw 7 0 0 rfl rfl rfl rfl (by decide) (h7) rfl (ty := .int) (by decide +kernel) rfl rfl mw_687 dX7_isShell_2 (fun H locs hw => ?_)
  refine lv_aload_n hx hb dX7_isShell_5 rfl (lv_at hl 0 rfl) ?_
  refine lv_iload_n hx hb dX7_isShell_6 rfl (lv_at hl 1 rfl) ?_
  refine lv_if_lt (tgt := 22) hx hb dX7_isShell_7 (by decide) (fun c_7 => ?_) (fun c_7 => ?_)
  · refine lv_iconst (v := 0) hx hb dX7_isShell_22 (by decide) ?_
    refine lv_iconst (v := 1) hx hb dX7_isShell_23 (by decide) ?_
    refine xc_Vi hc hw 7 0 (c_X7_right 0 1 h7 hm) rfl rfl (h7) mw_834 mw_831 mw_4 mw_833 mp_20 xd_X7_right ⟨by decide, by decide⟩ (rfl) hl.1 (Nat.le_of_ble_eq_true rfl) dX7_isShell_24 ⟨Nat.le_of_ble_eq_true rfl, Nat.le_of_ble_eq_true rfl⟩ (fun r_24 σ_24 H locs hq hw => ?_)
    have hq_24 := hq
    obtain ⟨hσ_24, hr_24⟩ := hq_24
    exact xr_i hc hlocks hr (x_nb (x_01 hr_24)) hw (by simp_all [q_X7_isShell, x_up, ← Int32.not_le, x_up_up]) (Nat.le_of_ble_eq_true rfl) (Nat.le_of_ble_eq_true rfl) dX7_isShell_27
  · refine lv_iload_n hx hb dX7_isShell_10 rfl (lv_at hl 1 rfl) ?_
    refine lv_aload_n hx hb dX7_isShell_11 rfl (lv_at hl 0 rfl) ?_
    refine xg_i hc hw 7 0 1 rfl rfl rfl rfl (by decide) (h7) mw_688 dX7_isShell_12 ?_
    refine lv_icmp_ge (tgt := 22) hx hb dX7_isShell_15 (by decide) (fun c_15 => ?_) (fun c_15 => ?_)
    · refine lv_iconst (v := 0) hx hb dX7_isShell_22 (by decide) ?_
      refine lv_iconst (v := 1) hx hb dX7_isShell_23 (by decide) ?_
      refine xc_Vi hc hw 7 0 (c_X7_right 0 1 h7 hm) rfl rfl (h7) mw_834 mw_831 mw_4 mw_833 mp_20 xd_X7_right ⟨by decide, by decide⟩ (rfl) hl.1 (Nat.le_of_ble_eq_true rfl) dX7_isShell_24 ⟨Nat.le_of_ble_eq_true rfl, Nat.le_of_ble_eq_true rfl⟩ (fun r_24 σ_24 H locs hq hw => ?_)
      have hq_24 := hq
      obtain ⟨hσ_24, hr_24⟩ := hq_24
      exact xr_i hc hlocks hr (x_nb (x_01 hr_24)) hw (by simp_all [q_X7_isShell, x_up, ← Int32.not_le, x_up_up]) (Nat.le_of_ble_eq_true rfl) (Nat.le_of_ble_eq_true rfl) dX7_isShell_27
    · refine lv_iconst (v := 1) hx hb dX7_isShell_18 (by decide) ?_
      refine lv_goto (tgt := 23) hx hb dX7_isShell_19 (by decide) ?_
      refine lv_iconst (v := 1) hx hb dX7_isShell_23 (by decide) ?_
      refine xc_Vi hc hw 7 0 (c_X7_right 1 1 h7 hm) rfl rfl (h7) mw_834 mw_831 mw_4 mw_833 mp_20 xd_X7_right ⟨by decide, by decide⟩ (rfl) hl.1 (Nat.le_of_ble_eq_true rfl) dX7_isShell_24 ⟨Nat.le_of_ble_eq_true rfl, Nat.le_of_ble_eq_true rfl⟩ (fun r_24 σ_24 H locs hq hw => ?_)
      have hq_24 := hq
      obtain ⟨hσ_24, hr_24⟩ := hq_24
      exact xr_i hc hlocks hr (x_nb (x_01 hr_24)) hw (by simp_all [q_X7_isShell, x_up, ← Int32.not_le, x_up_up]) (Nat.le_of_ble_eq_true rfl) (Nat.le_of_ble_eq_true rfl) dX7_isShell_27
/-- X7_isCard -/
def q_X7_isCard (σ : x_St) (a : Int32) : Int32 → x_St → Prop := fun r σ' => r = (if 0 ≤ a ∧ a < σ 7 0 3 then 1 else 0) ∧ σ' = x_up σ 7 0 0 (if 0 ≤ a ∧ a < σ 7 0 3 then 0 else 1)
set_option maxHeartbeats 4000000 in
set_option maxRecDepth 100000 in
theorem c_X7_isCard {l : Launch} {D : va_G} {cs : Nat → ClassId} {base : Nat} {ad : Nat → Nat → Nat} {n st : Nat → Nat} {σ : x_St} (a : Int32) (h7 : 0 < n 7) (hm : ∀ k, 36 ≤ k → k < 70 → 0 < n k ∧ 0 < st (100 + k)) : x_Ci l yX7_isCard cX7_isCard 2 (some .boolean) 2 0 0 D cs base ad n st σ [.ref (ad 7 0), .int a] (q_X7_isCard σ a) (fun σ' => x_U D cs base ad n st σ') := by
  refine Met.ofW (cc := cX7_isCard) (maxL := 2) (ret := some .boolean) (by decide) rfl ?_
  intro p e s m args below meth c s₁ B hml hv
  obtain ⟨rfl, hU⟩ := hv
  have hx := B.exec
  have hb := B.bytes
  have hr := B.returns
  have hts := atoms_spec (ws := Cond.code yX7_isCard cX7_isCard 2 (some .boolean) :: Tw) B.pre
  have hown : s.vm.findClass RX7 = some m.cls := findClass_of_methodNamed B.named
  have hlocks := B.notSynchronized
  have hc : CallFix p m c cX7_isCard 2 s (([.ref (ad 7 0), .int a] : List Value).toArray) Tw RX7 := ⟨hx, hb, hml, hown, fun w hw => hts w (List.mem_cons_of_mem _ hw)⟩
  have hw := x_B.start hU
  have hl := lv_entry ([.ref (ad 7 0), .int a]) (n := 2) (Nat.le_of_ble_eq_true rfl)
  rw [lg_entry_eq]
  generalize (lg_sl ([.ref (ad 7 0), .int a]) ++ List.replicate (2 - (lg_sl ([.ref (ad 7 0), .int a])).length) Slot.unset).toArray = ls at hl ⊢
  have hl : lv_has ls 2 [(0, .ref (ad 7 0)), (1, .int a)] := hl
  show W p l e (x_rm 2 0 0) s m ([.ref (ad 7 0), .int a] : List Value).toArray below meth c s.heap [] 0 0 (MQ below (va_Qi (q_X7_isCard σ a) (fun σ' => x_U D cs base ad n st σ') (x_A base)) ([.ref (ad 7 0), .int a] : List Value).toArray s 0 0 (x_A base)) (F0 m 0 ls [])
  refine lv_aload_n hx hb dX7_isCard_0 rfl (lv_at hl 0 rfl) ?_
  refine lv_iconst (v := 0) hx hb dX7_isCard_1 (by decide) ?_
  refine xp_i hc hw 7 0 0 rfl rfl rfl rfl (by decide) (h7) rfl (ty := .int) (by decide +kernel) rfl rfl mw_687 dX7_isCard_2 (fun H locs hw => ?_)
  refine lv_aload_n hx hb dX7_isCard_5 rfl (lv_at hl 0 rfl) ?_
  refine lv_iload_n hx hb dX7_isCard_6 rfl (lv_at hl 1 rfl) ?_
  refine lv_if_lt (tgt := 22) hx hb dX7_isCard_7 (by decide) (fun c_7 => ?_) (fun c_7 => ?_)
  · refine lv_iconst (v := 0) hx hb dX7_isCard_22 (by decide) ?_
    refine lv_iconst (v := 1) hx hb dX7_isCard_23 (by decide) ?_
    refine xc_Vi hc hw 7 0 (c_X7_right 0 1 h7 hm) rfl rfl (h7) mw_834 mw_831 mw_4 mw_833 mp_20 xd_X7_right ⟨by decide, by decide⟩ (rfl) hl.1 (Nat.le_of_ble_eq_true rfl) dX7_isCard_24 ⟨Nat.le_of_ble_eq_true rfl, Nat.le_of_ble_eq_true rfl⟩ (fun r_24 σ_24 H locs hq hw => ?_)
    have hq_24 := hq
    obtain ⟨hσ_24, hr_24⟩ := hq_24
    exact xr_i hc hlocks hr (x_nb (x_01 hr_24)) hw (by simp_all [q_X7_isCard, x_up, ← Int32.not_le, x_up_up]) (Nat.le_of_ble_eq_true rfl) (Nat.le_of_ble_eq_true rfl) dX7_isCard_27
  · refine lv_iload_n hx hb dX7_isCard_10 rfl (lv_at hl 1 rfl) ?_
    refine lv_aload_n hx hb dX7_isCard_11 rfl (lv_at hl 0 rfl) ?_
    refine xg_i hc hw 7 0 3 rfl rfl rfl rfl (by decide) (h7) mw_690 dX7_isCard_12 ?_
    refine lv_icmp_ge (tgt := 22) hx hb dX7_isCard_15 (by decide) (fun c_15 => ?_) (fun c_15 => ?_)
    · refine lv_iconst (v := 0) hx hb dX7_isCard_22 (by decide) ?_
      refine lv_iconst (v := 1) hx hb dX7_isCard_23 (by decide) ?_
      refine xc_Vi hc hw 7 0 (c_X7_right 0 1 h7 hm) rfl rfl (h7) mw_834 mw_831 mw_4 mw_833 mp_20 xd_X7_right ⟨by decide, by decide⟩ (rfl) hl.1 (Nat.le_of_ble_eq_true rfl) dX7_isCard_24 ⟨Nat.le_of_ble_eq_true rfl, Nat.le_of_ble_eq_true rfl⟩ (fun r_24 σ_24 H locs hq hw => ?_)
      have hq_24 := hq
      obtain ⟨hσ_24, hr_24⟩ := hq_24
      exact xr_i hc hlocks hr (x_nb (x_01 hr_24)) hw (by simp_all [q_X7_isCard, x_up, ← Int32.not_le, x_up_up]) (Nat.le_of_ble_eq_true rfl) (Nat.le_of_ble_eq_true rfl) dX7_isCard_27
    · refine lv_iconst (v := 1) hx hb dX7_isCard_18 (by decide) ?_
      refine lv_goto (tgt := 23) hx hb dX7_isCard_19 (by decide) ?_
      refine lv_iconst (v := 1) hx hb dX7_isCard_23 (by decide) ?_
      refine xc_Vi hc hw 7 0 (c_X7_right 1 1 h7 hm) rfl rfl (h7) mw_834 mw_831 mw_4 mw_833 mp_20 xd_X7_right ⟨by decide, by decide⟩ (rfl) hl.1 (Nat.le_of_ble_eq_true rfl) dX7_isCard_24 ⟨Nat.le_of_ble_eq_true rfl, Nat.le_of_ble_eq_true rfl⟩ (fun r_24 σ_24 H locs hq hw => ?_)
      have hq_24 := hq
      obtain ⟨hσ_24, hr_24⟩ := hq_24
      exact xr_i hc hlocks hr (x_nb (x_01 hr_24)) hw (by simp_all [q_X7_isCard, x_up, ← Int32.not_le, x_up_up]) (Nat.le_of_ble_eq_true rfl) (Nat.le_of_ble_eq_true rfl) dX7_isCard_27
/-- X7_isMachine -/
def q_X7_isMachine (σ : x_St) (a : Int32) : Int32 → x_St → Prop := fun r σ' => r = (if 0 ≤ a ∧ a ≤ 5 then 1 else 0) ∧ σ' = x_up σ 7 0 0 (if 0 ≤ a ∧ a ≤ 5 then 0 else 1)
set_option maxHeartbeats 4000000 in
set_option maxRecDepth 100000 in
theorem c_X7_isMachine {l : Launch} {D : va_G} {cs : Nat → ClassId} {base : Nat} {ad : Nat → Nat → Nat} {n st : Nat → Nat} {σ : x_St} (a : Int32) (h7 : 0 < n 7) (hm : ∀ k, 36 ≤ k → k < 70 → 0 < n k ∧ 0 < st (100 + k)) : x_Ci l yX7_isMachine cX7_isMachine 2 (some .boolean) 2 0 0 D cs base ad n st σ [.ref (ad 7 0), .int a] (q_X7_isMachine σ a) (fun σ' => x_U D cs base ad n st σ') := by
  refine Met.ofW (cc := cX7_isMachine) (maxL := 2) (ret := some .boolean) (by decide) rfl ?_
  intro p e s m args below meth c s₁ B hml hv
  obtain ⟨rfl, hU⟩ := hv
  have hx := B.exec
  have hb := B.bytes
  have hr := B.returns
  have hts := atoms_spec (ws := Cond.code yX7_isMachine cX7_isMachine 2 (some .boolean) :: Tw) B.pre
  have hown : s.vm.findClass RX7 = some m.cls := findClass_of_methodNamed B.named
  have hlocks := B.notSynchronized
  have hc : CallFix p m c cX7_isMachine 2 s (([.ref (ad 7 0), .int a] : List Value).toArray) Tw RX7 := ⟨hx, hb, hml, hown, fun w hw => hts w (List.mem_cons_of_mem _ hw)⟩
  have hw := x_B.start hU
  have hl := lv_entry ([.ref (ad 7 0), .int a]) (n := 2) (Nat.le_of_ble_eq_true rfl)
  rw [lg_entry_eq]
  generalize (lg_sl ([.ref (ad 7 0), .int a]) ++ List.replicate (2 - (lg_sl ([.ref (ad 7 0), .int a])).length) Slot.unset).toArray = ls at hl ⊢
  have hl : lv_has ls 2 [(0, .ref (ad 7 0)), (1, .int a)] := hl
  show W p l e (x_rm 2 0 0) s m ([.ref (ad 7 0), .int a] : List Value).toArray below meth c s.heap [] 0 0 (MQ below (va_Qi (q_X7_isMachine σ a) (fun σ' => x_U D cs base ad n st σ') (x_A base)) ([.ref (ad 7 0), .int a] : List Value).toArray s 0 0 (x_A base)) (F0 m 0 ls [])
  refine lv_aload_n hx hb dX7_isMachine_0 rfl (lv_at hl 0 rfl) ?_
  refine lv_iconst (v := 0) hx hb dX7_isMachine_1 (by decide) ?_
  refine xp_i hc hw 7 0 0 rfl rfl rfl rfl (by decide) (h7) rfl (ty := .int) (by decide +kernel) rfl rfl mw_687 dX7_isMachine_2 (fun H locs hw => ?_)
  refine lv_aload_n hx hb dX7_isMachine_5 rfl (lv_at hl 0 rfl) ?_
  refine lv_iload_n hx hb dX7_isMachine_6 rfl (lv_at hl 1 rfl) ?_
  refine lv_if_lt (tgt := 19) hx hb dX7_isMachine_7 (by decide) (fun c_7 => ?_) (fun c_7 => ?_)
  · refine lv_iconst (v := 0) hx hb dX7_isMachine_19 (by decide) ?_
    refine lv_iconst (v := 1) hx hb dX7_isMachine_20 (by decide) ?_
    refine xc_Vi hc hw 7 0 (c_X7_right 0 1 h7 hm) rfl rfl (h7) mw_834 mw_831 mw_4 mw_833 mp_20 xd_X7_right ⟨by decide, by decide⟩ (rfl) hl.1 (Nat.le_of_ble_eq_true rfl) dX7_isMachine_21 ⟨Nat.le_of_ble_eq_true rfl, Nat.le_of_ble_eq_true rfl⟩ (fun r_21 σ_21 H locs hq hw => ?_)
    have hq_21 := hq
    obtain ⟨hσ_21, hr_21⟩ := hq_21
    exact xr_i hc hlocks hr (x_nb (x_01 hr_21)) hw (by simp_all [q_X7_isMachine, x_up, ← Int32.not_le, x_up_up]) (Nat.le_of_ble_eq_true rfl) (Nat.le_of_ble_eq_true rfl) dX7_isMachine_24
  · refine lv_iload_n hx hb dX7_isMachine_10 rfl (lv_at hl 1 rfl) ?_
    refine lv_iconst (v := 5) hx hb dX7_isMachine_11 (by decide) ?_
    refine lv_icmp_gt (tgt := 19) hx hb dX7_isMachine_12 (by decide) (fun c_12 => ?_) (fun c_12 => ?_)
    · refine lv_iconst (v := 0) hx hb dX7_isMachine_19 (by decide) ?_
      refine lv_iconst (v := 1) hx hb dX7_isMachine_20 (by decide) ?_
      refine xc_Vi hc hw 7 0 (c_X7_right 0 1 h7 hm) rfl rfl (h7) mw_834 mw_831 mw_4 mw_833 mp_20 xd_X7_right ⟨by decide, by decide⟩ (rfl) hl.1 (Nat.le_of_ble_eq_true rfl) dX7_isMachine_21 ⟨Nat.le_of_ble_eq_true rfl, Nat.le_of_ble_eq_true rfl⟩ (fun r_21 σ_21 H locs hq hw => ?_)
      have hq_21 := hq
      obtain ⟨hσ_21, hr_21⟩ := hq_21
      exact xr_i hc hlocks hr (x_nb (x_01 hr_21)) hw (by simp_all [q_X7_isMachine, x_up, ← Int32.not_le, x_up_up]) (Nat.le_of_ble_eq_true rfl) (Nat.le_of_ble_eq_true rfl) dX7_isMachine_24
    · refine lv_iconst (v := 1) hx hb dX7_isMachine_15 (by decide) ?_
      refine lv_goto (tgt := 20) hx hb dX7_isMachine_16 (by decide) ?_
      refine lv_iconst (v := 1) hx hb dX7_isMachine_20 (by decide) ?_
      refine xc_Vi hc hw 7 0 (c_X7_right 1 1 h7 hm) rfl rfl (h7) mw_834 mw_831 mw_4 mw_833 mp_20 xd_X7_right ⟨by decide, by decide⟩ (rfl) hl.1 (Nat.le_of_ble_eq_true rfl) dX7_isMachine_21 ⟨Nat.le_of_ble_eq_true rfl, Nat.le_of_ble_eq_true rfl⟩ (fun r_21 σ_21 H locs hq hw => ?_)
      have hq_21 := hq
      obtain ⟨hσ_21, hr_21⟩ := hq_21
      exact xr_i hc hlocks hr (x_nb (x_01 hr_21)) hw (by simp_all [q_X7_isMachine, x_up, ← Int32.not_le, x_up_up]) (Nat.le_of_ble_eq_true rfl) (Nat.le_of_ble_eq_true rfl) dX7_isMachine_24
/-- X7_isButton -/
def q_X7_isButton (σ : x_St) (a : Int32) : Int32 → x_St → Prop := fun r σ' => σ 7 0 0 = 0 → r = (if 0 ≤ a ∧ a < σ 7 0 2 then 1 else 0) ∧ σ' = x_up σ 7 0 0 (if 0 ≤ a ∧ a < σ 7 0 2 then 0 else 1)
set_option maxHeartbeats 4000000 in
set_option maxRecDepth 100000 in
theorem c_X7_isButton {l : Launch} {D : va_G} {cs : Nat → ClassId} {base : Nat} {ad : Nat → Nat → Nat} {n st : Nat → Nat} {σ : x_St} (a : Int32) (h7 : 0 < n 7) (hm : ∀ k, 36 ≤ k → k < 70 → 0 < n k ∧ 0 < st (100 + k)) : x_Ci l yX7_isButton cX7_isButton 2 (some .boolean) 2 0 0 D cs base ad n st σ [.ref (ad 7 0), .int a] (q_X7_isButton σ a) (fun σ' => x_U D cs base ad n st σ') := by
  refine Met.ofW (cc := cX7_isButton) (maxL := 2) (ret := some .boolean) (by decide) rfl ?_
  intro p e s m args below meth c s₁ B hml hv
  obtain ⟨rfl, hU⟩ := hv
  have hx := B.exec
  have hb := B.bytes
  have hr := B.returns
  have hts := atoms_spec (ws := Cond.code yX7_isButton cX7_isButton 2 (some .boolean) :: Tw) B.pre
  have hown : s.vm.findClass RX7 = some m.cls := findClass_of_methodNamed B.named
  have hlocks := B.notSynchronized
  have hc : CallFix p m c cX7_isButton 2 s (([.ref (ad 7 0), .int a] : List Value).toArray) Tw RX7 := ⟨hx, hb, hml, hown, fun w hw => hts w (List.mem_cons_of_mem _ hw)⟩
  have hw := x_B.start hU
  have hl := lv_entry ([.ref (ad 7 0), .int a]) (n := 2) (Nat.le_of_ble_eq_true rfl)
  rw [lg_entry_eq]
  generalize (lg_sl ([.ref (ad 7 0), .int a]) ++ List.replicate (2 - (lg_sl ([.ref (ad 7 0), .int a])).length) Slot.unset).toArray = ls at hl ⊢
  have hl : lv_has ls 2 [(0, .ref (ad 7 0)), (1, .int a)] := hl
  show W p l e (x_rm 2 0 0) s m ([.ref (ad 7 0), .int a] : List Value).toArray below meth c s.heap [] 0 0 (MQ below (va_Qi (q_X7_isButton σ a) (fun σ' => x_U D cs base ad n st σ') (x_A base)) ([.ref (ad 7 0), .int a] : List Value).toArray s 0 0 (x_A base)) (F0 m 0 ls [])
  refine lv_aload_n hx hb dX7_isButton_0 rfl (lv_at hl 0 rfl) ?_
  refine lv_iload_n hx hb dX7_isButton_1 rfl (lv_at hl 1 rfl) ?_
  refine lv_if_lt (tgt := 17) hx hb dX7_isButton_2 (by decide) (fun c_2 => ?_) (fun c_2 => ?_)
  · refine lv_iconst (v := 0) hx hb dX7_isButton_17 (by decide) ?_
    refine lv_iconst (v := 1) hx hb dX7_isButton_18 (by decide) ?_
    refine xc_Vi hc hw 7 0 (c_X7_right 0 1 h7 hm) rfl rfl (h7) mw_834 mw_831 mw_4 mw_833 mp_20 xd_X7_right ⟨by decide, by decide⟩ (rfl) hl.1 (Nat.le_of_ble_eq_true rfl) dX7_isButton_19 ⟨Nat.le_of_ble_eq_true rfl, Nat.le_of_ble_eq_true rfl⟩ (fun r_19 σ_19 H locs hq hw => ?_)
    have hq_19 := hq
    obtain ⟨hσ_19, hr_19⟩ := hq_19
    exact xr_i hc hlocks hr (x_nb (x_01 hr_19)) hw (fun hz => by simp_all [x_up, ← Int32.not_le, x_up_up, x_up_id]) (Nat.le_of_ble_eq_true rfl) (Nat.le_of_ble_eq_true rfl) dX7_isButton_22
  · refine lv_iload_n hx hb dX7_isButton_5 rfl (lv_at hl 1 rfl) ?_
    refine lv_aload_n hx hb dX7_isButton_6 rfl (lv_at hl 0 rfl) ?_
    refine xg_i hc hw 7 0 2 rfl rfl rfl rfl (by decide) (h7) mw_689 dX7_isButton_7 ?_
    refine lv_icmp_ge (tgt := 17) hx hb dX7_isButton_10 (by decide) (fun c_10 => ?_) (fun c_10 => ?_)
    · refine lv_iconst (v := 0) hx hb dX7_isButton_17 (by decide) ?_
      refine lv_iconst (v := 1) hx hb dX7_isButton_18 (by decide) ?_
      refine xc_Vi hc hw 7 0 (c_X7_right 0 1 h7 hm) rfl rfl (h7) mw_834 mw_831 mw_4 mw_833 mp_20 xd_X7_right ⟨by decide, by decide⟩ (rfl) hl.1 (Nat.le_of_ble_eq_true rfl) dX7_isButton_19 ⟨Nat.le_of_ble_eq_true rfl, Nat.le_of_ble_eq_true rfl⟩ (fun r_19 σ_19 H locs hq hw => ?_)
      have hq_19 := hq
      obtain ⟨hσ_19, hr_19⟩ := hq_19
      exact xr_i hc hlocks hr (x_nb (x_01 hr_19)) hw (fun hz => by simp_all [x_up, ← Int32.not_le, x_up_up, x_up_id]) (Nat.le_of_ble_eq_true rfl) (Nat.le_of_ble_eq_true rfl) dX7_isButton_22
    · refine lv_iconst (v := 1) hx hb dX7_isButton_13 (by decide) ?_
      refine lv_goto (tgt := 18) hx hb dX7_isButton_14 (by decide) ?_
      refine lv_iconst (v := 1) hx hb dX7_isButton_18 (by decide) ?_
      refine xc_Vi hc hw 7 0 (c_X7_right 1 1 h7 hm) rfl rfl (h7) mw_834 mw_831 mw_4 mw_833 mp_20 xd_X7_right ⟨by decide, by decide⟩ (rfl) hl.1 (Nat.le_of_ble_eq_true rfl) dX7_isButton_19 ⟨Nat.le_of_ble_eq_true rfl, Nat.le_of_ble_eq_true rfl⟩ (fun r_19 σ_19 H locs hq hw => ?_)
      have hq_19 := hq
      obtain ⟨hσ_19, hr_19⟩ := hq_19
      exact xr_i hc hlocks hr (x_nb (x_01 hr_19)) hw (fun hz => by simp_all [x_up, ← Int32.not_le, x_up_up, x_up_id]) (Nat.le_of_ble_eq_true rfl) (Nat.le_of_ble_eq_true rfl) dX7_isButton_22
/-- X7_isPassed -/
def q_X7_isPassed (σ : x_St) (a : Int32) : Int32 → x_St → Prop := fun r σ' => σ' = σ ∧ r = if σ 7 0 0 = 0 then a else 0
set_option maxHeartbeats 4000000 in
set_option maxRecDepth 100000 in
theorem c_X7_isPassed {l : Launch} {D : va_G} {cs : Nat → ClassId} {base : Nat} {ad : Nat → Nat → Nat} {n st : Nat → Nat} {σ : x_St} (a : Int32) (h7 : 0 < n 7) (hm : ∀ k, 36 ≤ k → k < 70 → 0 < n k ∧ 0 < st (100 + k)) : x_Ci l yX7_isPassed cX7_isPassed 2 (some .int) 1 0 0 D cs base ad n st σ [.ref (ad 7 0), .int a] (q_X7_isPassed σ a) (fun σ' => x_U D cs base ad n st σ') := by
  refine Met.ofW (cc := cX7_isPassed) (maxL := 2) (ret := some .int) (by decide) rfl ?_
  intro p e s m args below meth c s₁ B hml hv
  obtain ⟨rfl, hU⟩ := hv
  have hx := B.exec
  have hb := B.bytes
  have hr := B.returns
  have hts := atoms_spec (ws := Cond.code yX7_isPassed cX7_isPassed 2 (some .int) :: Tw) B.pre
  have hown : s.vm.findClass RX7 = some m.cls := findClass_of_methodNamed B.named
  have hlocks := B.notSynchronized
  have hc : CallFix p m c cX7_isPassed 2 s (([.ref (ad 7 0), .int a] : List Value).toArray) Tw RX7 := ⟨hx, hb, hml, hown, fun w hw => hts w (List.mem_cons_of_mem _ hw)⟩
  have hw := x_B.start hU
  have hl := lv_entry ([.ref (ad 7 0), .int a]) (n := 2) (Nat.le_of_ble_eq_true rfl)
  rw [lg_entry_eq]
  generalize (lg_sl ([.ref (ad 7 0), .int a]) ++ List.replicate (2 - (lg_sl ([.ref (ad 7 0), .int a])).length) Slot.unset).toArray = ls at hl ⊢
  have hl : lv_has ls 2 [(0, .ref (ad 7 0)), (1, .int a)] := hl
  show W p l e (x_rm 1 0 0) s m ([.ref (ad 7 0), .int a] : List Value).toArray below meth c s.heap [] 0 0 (MQ below (va_Qi (q_X7_isPassed σ a) (fun σ' => x_U D cs base ad n st σ') (x_A base)) ([.ref (ad 7 0), .int a] : List Value).toArray s 0 0 (x_A base)) (F0 m 0 ls [])
  refine lv_aload_n hx hb dX7_isPassed_0 rfl (lv_at hl 0 rfl) ?_
  refine xg_i hc hw 7 0 0 rfl rfl rfl rfl (by decide) (h7) mw_687 dX7_isPassed_1 ?_
  refine lv_if_ne (tgt := 11) hx hb dX7_isPassed_4 (by decide) (fun c_4 => ?_) (fun c_4 => ?_)
  · refine lv_iconst (v := 0) hx hb dX7_isPassed_11 (by decide) ?_
    exact xr_i hc hlocks hr rfl hw (by simp_all [q_X7_isPassed]) (Nat.le_of_ble_eq_true rfl) (Nat.le_of_ble_eq_true rfl) dX7_isPassed_12
  · refine lv_iload_n hx hb dX7_isPassed_7 rfl (lv_at hl 1 rfl) ?_
    refine lv_goto (tgt := 12) hx hb dX7_isPassed_8 (by decide) ?_
    exact xr_i hc hlocks hr rfl hw (by simp_all [q_X7_isPassed]) (Nat.le_of_ble_eq_true rfl) (Nat.le_of_ble_eq_true rfl) dX7_isPassed_12
