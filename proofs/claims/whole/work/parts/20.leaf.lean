abbrev f_brk (σ : x_St) (i : Nat) (t : Int32) : Prop := 0 < σ 3 i 0 + t - σ 3 i 1 ∧ ((σ 3 i 0 + t - σ 3 i 1) - (σ 3 i 0 + t - σ 3 i 1) / 7 * 7 = 0 ∨ (0 < t ∧ (σ 3 i 0 + t - σ 3 i 1) - (σ 3 i 0 + t - σ 3 i 1) / t * t = 0))
def f_brk' (σ : x_St) (i : Nat) (t : Int32) : x_St := if f_brk σ i t then x_up (x_up σ 3 i 0 (σ 3 i 0 + t)) 3 i 3 (σ 3 i 3 + 1) else x_up (x_up σ 3 i 0 (σ 3 i 0 + t)) 3 i 2 (σ 3 i 2 + 1)
theorem f_brk_1 {σ : x_St} {i : Nat} {t : Int32} (h : f_brk σ i t) : (1 : Int32) = (if f_brk σ i t then 1 else 0) ∧ x_up (x_up σ 3 i 0 (σ 3 i 0 + t)) 3 i 3 ((x_up σ 3 i 0 (σ 3 i 0 + t)) 3 i 3 + 1) = f_brk' σ i t := by
  refine ⟨(if_pos h).symm, ?_⟩
  rw [f_brk', if_pos h, x_up_n (by simp)]
theorem f_brk_0 {σ : x_St} {i : Nat} {t : Int32} (h : ¬ f_brk σ i t) : (0 : Int32) = (if f_brk σ i t then 1 else 0) ∧ x_up (x_up σ 3 i 0 (σ 3 i 0 + t)) 3 i 2 ((x_up σ 3 i 0 (σ 3 i 0 + t)) 3 i 2 + 1) = f_brk' σ i t := by
  refine ⟨(if_neg h).symm, ?_⟩
  rw [f_brk', if_neg h, x_up_n (by simp)]
def f_pal (t a : Int32) : Int32 := if 0 < t - a then t - a else 0
abbrev f_fit (σ : x_St) (i : Nat) (sz ho ti a b : Int32) : Prop := σ 0 i 5 = 2 ∧ σ 0 i 0 = sz ∧ σ 0 i 6 = ho ∧ σ 0 i 2 = ti ∧ a ≤ σ 0 i 1 ∧ σ 0 i 1 ≤ b
abbrev f_tak (σ : x_St) (i j : Nat) : Prop := σ 1 j 6 = -1 ∧ σ 1 j 0 = σ 4 i 1 ∧ σ 1 j 1 = σ 4 i 2 ∧ σ 4 i 3 ≤ σ 1 j 2 ∧ σ 1 j 2 ≤ σ 4 i 4
theorem x_ab (a b : Nat) : nI a * 10 + nI b = nI (10 * a + b) := by rw [show (10 : Int32) = nI 10 from rfl, pk_mul, nI_add, Nat.mul_comm]
def f_sew (σ : x_St) (i j : Nat) (b t : Int32) : x_St := x_up (x_up (x_up σ 10 i j b) 1 i 4 (if t < σ 1 i 4 then t else σ 1 i 4)) 1 i 5 (if σ 1 i 5 < t then t else σ 1 i 5)

/-- X6_isWithin -/
def q_X6_isWithin (σ : x_St) (a b d : Int32) : Int32 → x_St → Prop := fun r σ' => σ' = σ ∧ r = if b ≤ a ∧ a ≤ d then 1 else 0
set_option maxHeartbeats 4000000 in
set_option maxRecDepth 100000 in
theorem c_X6_isWithin {l : Launch} {D : va_G} {cs : Nat → ClassId} {base : Nat} {ad : Nat → Nat → Nat} {n st : Nat → Nat} {σ : x_St} (a b d : Int32) : x_Ci l yX6_isWithin cX6_isWithin 3 (some .boolean) 1 0 0 D cs base ad n st σ [.int a, .int b, .int d] (q_X6_isWithin σ a b d) (fun σ' => x_U D cs base ad n st σ') := by
  refine Met.ofW (cc := cX6_isWithin) (maxL := 3) (ret := some .boolean) (by decide) rfl ?_
  intro p e s m args below meth c s₁ B hml hv
  obtain ⟨rfl, hU⟩ := hv
  have hx := B.exec
  have hb := B.bytes
  have hr := B.returns
  have hts := atoms_spec (ws := Cond.code yX6_isWithin cX6_isWithin 3 (some .boolean) :: Tw) B.pre
  have hown : s.vm.findClass RX6 = some m.cls := findClass_of_methodNamed B.named
  have hlocks := B.notSynchronized
  have hc : CallFix p m c cX6_isWithin 3 s (([.int a, .int b, .int d] : List Value).toArray) Tw RX6 := ⟨hx, hb, hml, hown, fun w hw => hts w (List.mem_cons_of_mem _ hw)⟩
  have hw := x_B.start hU
  have hl := lv_entry ([.int a, .int b, .int d]) (n := 3) (Nat.le_of_ble_eq_true rfl)
  rw [lg_entry_eq]
  generalize (lg_sl ([.int a, .int b, .int d]) ++ List.replicate (3 - (lg_sl ([.int a, .int b, .int d])).length) Slot.unset).toArray = ls at hl ⊢
  have hl : lv_has ls 3 [(0, .int a), (1, .int b), (2, .int d)] := hl
  show W p l e (x_rm 1 0 0) s m ([.int a, .int b, .int d] : List Value).toArray below meth c s.heap [] 0 0 (MQ below (va_Qi (q_X6_isWithin σ a b d) (fun σ' => x_U D cs base ad n st σ') (x_A base)) ([.int a, .int b, .int d] : List Value).toArray s 0 0 (x_A base)) (F0 m 0 ls [])
  refine lv_iload_n hx hb dX6_isWithin_0 rfl (lv_at hl 0 rfl) ?_
  refine lv_iload_n hx hb dX6_isWithin_1 rfl (lv_at hl 1 rfl) ?_
  refine lv_icmp_lt (tgt := 14) hx hb dX6_isWithin_2 (by decide) (fun c_2 => ?_) (fun c_2 => ?_)
  · refine lv_iconst (v := 0) hx hb dX6_isWithin_14 (by decide) ?_
    exact xr_i hc hlocks hr rfl hw (⟨rfl, (if_neg (fun h => by first | exact absurd c_2 (Int32.not_lt.mpr h.1) | exact absurd c_7 (Int32.not_lt.mpr h.2))).symm⟩) (Nat.le_of_ble_eq_true rfl) (Nat.le_of_ble_eq_true rfl) dX6_isWithin_15
  · refine lv_iload_n hx hb dX6_isWithin_5 rfl (lv_at hl 0 rfl) ?_
    refine lv_iload_n hx hb dX6_isWithin_6 rfl (lv_at hl 2 rfl) ?_
    refine lv_icmp_gt (tgt := 14) hx hb dX6_isWithin_7 (by decide) (fun c_7 => ?_) (fun c_7 => ?_)
    · refine lv_iconst (v := 0) hx hb dX6_isWithin_14 (by decide) ?_
      exact xr_i hc hlocks hr rfl hw (⟨rfl, (if_neg (fun h => by first | exact absurd c_2 (Int32.not_lt.mpr h.1) | exact absurd c_7 (Int32.not_lt.mpr h.2))).symm⟩) (Nat.le_of_ble_eq_true rfl) (Nat.le_of_ble_eq_true rfl) dX6_isWithin_15
    · refine lv_iconst (v := 1) hx hb dX6_isWithin_10 (by decide) ?_
      refine lv_goto (tgt := 15) hx hb dX6_isWithin_11 (by decide) ?_
      exact xr_i hc hlocks hr rfl hw (⟨rfl, (if_pos ⟨Int32.not_lt.mp c_2, Int32.not_lt.mp c_7⟩).symm⟩) (Nat.le_of_ble_eq_true rfl) (Nat.le_of_ble_eq_true rfl) dX6_isWithin_15
/-- X6_isSize -/
def q_X6_isSize (σ : x_St) (a : Int32) : Int32 → x_St → Prop := fun r σ' => σ' = σ ∧ r = if 1 ≤ a ∧ a ≤ 3 then 1 else 0
set_option maxHeartbeats 4000000 in
set_option maxRecDepth 100000 in
theorem c_X6_isSize {l : Launch} {D : va_G} {cs : Nat → ClassId} {base : Nat} {ad : Nat → Nat → Nat} {n st : Nat → Nat} {σ : x_St} (a : Int32) : x_Ci l yX6_isSize cX6_isSize 1 (some .boolean) 2 0 0 D cs base ad n st σ [.int a] (q_X6_isSize σ a) (fun σ' => x_U D cs base ad n st σ') := by
  refine Met.ofW (cc := cX6_isSize) (maxL := 1) (ret := some .boolean) (by decide) rfl ?_
  intro p e s m args below meth c s₁ B hml hv
  obtain ⟨rfl, hU⟩ := hv
  have hx := B.exec
  have hb := B.bytes
  have hr := B.returns
  have hts := atoms_spec (ws := Cond.code yX6_isSize cX6_isSize 1 (some .boolean) :: Tw) B.pre
  have hown : s.vm.findClass RX6 = some m.cls := findClass_of_methodNamed B.named
  have hlocks := B.notSynchronized
  have hc : CallFix p m c cX6_isSize 1 s (([.int a] : List Value).toArray) Tw RX6 := ⟨hx, hb, hml, hown, fun w hw => hts w (List.mem_cons_of_mem _ hw)⟩
  have hw := x_B.start hU
  have hl := lv_entry ([.int a]) (n := 1) (Nat.le_of_ble_eq_true rfl)
  rw [lg_entry_eq]
  generalize (lg_sl ([.int a]) ++ List.replicate (1 - (lg_sl ([.int a])).length) Slot.unset).toArray = ls at hl ⊢
  have hl : lv_has ls 1 [(0, .int a)] := hl
  show W p l e (x_rm 2 0 0) s m ([.int a] : List Value).toArray below meth c s.heap [] 0 0 (MQ below (va_Qi (q_X6_isSize σ a) (fun σ' => x_U D cs base ad n st σ') (x_A base)) ([.int a] : List Value).toArray s 0 0 (x_A base)) (F0 m 0 ls [])
  refine lv_iload_n hx hb dX6_isSize_0 rfl (lv_at hl 0 rfl) ?_
  refine lv_iconst (v := 1) hx hb dX6_isSize_1 (by decide) ?_
  refine lv_iconst (v := 3) hx hb dX6_isSize_2 (by decide) ?_
  refine xc_Si hc hw (c_X6_isWithin a 1 3) mw_128 mw_126 mw_1 mw_127 xd_X6_isWithin ⟨by decide, by decide⟩ (rfl) hl.1 (Nat.le_of_ble_eq_true rfl) dX6_isSize_3 ⟨Nat.le_of_ble_eq_true rfl, Nat.le_of_ble_eq_true rfl⟩ (fun r_3 σ_3 H locs hq hw => ?_)
  obtain ⟨hσ_3, hr_3⟩ := hq
  rw [hσ_3] at hw
  exact xr_i hc hlocks hr (x_nb (x_01 hr_3)) hw (⟨rfl, hr_3⟩) (Nat.le_of_ble_eq_true rfl) (Nat.le_of_ble_eq_true rfl) dX6_isSize_6
/-- X6_isHoles -/
def q_X6_isHoles (σ : x_St) (a : Int32) : Int32 → x_St → Prop := fun r σ' => σ' = σ ∧ r = if a = 2 ∨ a = 4 then 1 else 0
set_option maxHeartbeats 4000000 in
set_option maxRecDepth 100000 in
theorem c_X6_isHoles {l : Launch} {D : va_G} {cs : Nat → ClassId} {base : Nat} {ad : Nat → Nat → Nat} {n st : Nat → Nat} {σ : x_St} (a : Int32) : x_Ci l yX6_isHoles cX6_isHoles 1 (some .boolean) 1 0 0 D cs base ad n st σ [.int a] (q_X6_isHoles σ a) (fun σ' => x_U D cs base ad n st σ') := by
  refine Met.ofW (cc := cX6_isHoles) (maxL := 1) (ret := some .boolean) (by decide) rfl ?_
  intro p e s m args below meth c s₁ B hml hv
  obtain ⟨rfl, hU⟩ := hv
  have hx := B.exec
  have hb := B.bytes
  have hr := B.returns
  have hts := atoms_spec (ws := Cond.code yX6_isHoles cX6_isHoles 1 (some .boolean) :: Tw) B.pre
  have hown : s.vm.findClass RX6 = some m.cls := findClass_of_methodNamed B.named
  have hlocks := B.notSynchronized
  have hc : CallFix p m c cX6_isHoles 1 s (([.int a] : List Value).toArray) Tw RX6 := ⟨hx, hb, hml, hown, fun w hw => hts w (List.mem_cons_of_mem _ hw)⟩
  have hw := x_B.start hU
  have hl := lv_entry ([.int a]) (n := 1) (Nat.le_of_ble_eq_true rfl)
  rw [lg_entry_eq]
  generalize (lg_sl ([.int a]) ++ List.replicate (1 - (lg_sl ([.int a])).length) Slot.unset).toArray = ls at hl ⊢
  have hl : lv_has ls 1 [(0, .int a)] := hl
  show W p l e (x_rm 1 0 0) s m ([.int a] : List Value).toArray below meth c s.heap [] 0 0 (MQ below (va_Qi (q_X6_isHoles σ a) (fun σ' => x_U D cs base ad n st σ') (x_A base)) ([.int a] : List Value).toArray s 0 0 (x_A base)) (F0 m 0 ls [])
  refine lv_iload_n hx hb dX6_isHoles_0 rfl (lv_at hl 0 rfl) ?_
  refine lv_iconst (v := 2) hx hb dX6_isHoles_1 (by decide) ?_
  refine lv_icmp_eq (tgt := 10) hx hb dX6_isHoles_2 (by decide) (fun c_2 => ?_) (fun c_2 => ?_)
  · refine lv_iconst (v := 1) hx hb dX6_isHoles_10 (by decide) ?_
    refine lv_goto (tgt := 15) hx hb dX6_isHoles_11 (by decide) ?_
    exact xr_i hc hlocks hr rfl hw (⟨rfl, by simp [*]⟩) (Nat.le_of_ble_eq_true rfl) (Nat.le_of_ble_eq_true rfl) dX6_isHoles_15
  · refine lv_iload_n hx hb dX6_isHoles_5 rfl (lv_at hl 0 rfl) ?_
    refine lv_iconst (v := 4) hx hb dX6_isHoles_6 (by decide) ?_
    refine lv_icmp_ne (tgt := 14) hx hb dX6_isHoles_7 (by decide) (fun c_7 => ?_) (fun c_7 => ?_)
    · refine lv_iconst (v := 0) hx hb dX6_isHoles_14 (by decide) ?_
      exact xr_i hc hlocks hr rfl hw (⟨rfl, by simp [*]⟩) (Nat.le_of_ble_eq_true rfl) (Nat.le_of_ble_eq_true rfl) dX6_isHoles_15
    · refine lv_iconst (v := 1) hx hb dX6_isHoles_10 (by decide) ?_
      refine lv_goto (tgt := 15) hx hb dX6_isHoles_11 (by decide) ?_
      exact xr_i hc hlocks hr rfl hw (⟨rfl, by simp [*]⟩) (Nat.le_of_ble_eq_true rfl) (Nat.le_of_ble_eq_true rfl) dX6_isHoles_15
/-- X3_isMultiple -/
def q_X3_isMultiple (σ : x_St) (a b : Int32) : Int32 → x_St → Prop := fun r σ' => σ' = σ ∧ r = if 0 < b ∧ a - a / b * b = 0 then 1 else 0
set_option maxHeartbeats 4000000 in
set_option maxRecDepth 100000 in
theorem c_X3_isMultiple {l : Launch} {D : va_G} {cs : Nat → ClassId} {base : Nat} {ad : Nat → Nat → Nat} {n st : Nat → Nat} {σ : x_St} (a b : Int32) : x_Ci l yX3_isMultiple cX3_isMultiple 2 (some .boolean) 1 0 0 D cs base ad n st σ [.int a, .int b] (q_X3_isMultiple σ a b) (fun σ' => x_U D cs base ad n st σ') := by
  refine Met.ofW (cc := cX3_isMultiple) (maxL := 2) (ret := some .boolean) (by decide) rfl ?_
  intro p e s m args below meth c s₁ B hml hv
  obtain ⟨rfl, hU⟩ := hv
  have hx := B.exec
  have hb := B.bytes
  have hr := B.returns
  have hts := atoms_spec (ws := Cond.code yX3_isMultiple cX3_isMultiple 2 (some .boolean) :: Tw) B.pre
  have hown : s.vm.findClass RX3 = some m.cls := findClass_of_methodNamed B.named
  have hlocks := B.notSynchronized
  have hc : CallFix p m c cX3_isMultiple 2 s (([.int a, .int b] : List Value).toArray) Tw RX3 := ⟨hx, hb, hml, hown, fun w hw => hts w (List.mem_cons_of_mem _ hw)⟩
  have hw := x_B.start hU
  have hl := lv_entry ([.int a, .int b]) (n := 2) (Nat.le_of_ble_eq_true rfl)
  rw [lg_entry_eq]
  generalize (lg_sl ([.int a, .int b]) ++ List.replicate (2 - (lg_sl ([.int a, .int b])).length) Slot.unset).toArray = ls at hl ⊢
  have hl : lv_has ls 2 [(0, .int a), (1, .int b)] := hl
  show W p l e (x_rm 1 0 0) s m ([.int a, .int b] : List Value).toArray below meth c s.heap [] 0 0 (MQ below (va_Qi (q_X3_isMultiple σ a b) (fun σ' => x_U D cs base ad n st σ') (x_A base)) ([.int a, .int b] : List Value).toArray s 0 0 (x_A base)) (F0 m 0 ls [])
  refine lv_iload_n hx hb dX3_isMultiple_0 rfl (lv_at hl 1 rfl) ?_
  refine lv_if_le (tgt := 14) hx hb dX3_isMultiple_1 (by decide) (fun c_1 => ?_) (fun c_1 => ?_)
  · refine lv_iconst (v := 0) hx hb dX3_isMultiple_14 (by decide) ?_
    exact xr_i hc hlocks hr rfl hw (⟨rfl, by simp_all [← Int32.not_le]⟩) (Nat.le_of_ble_eq_true rfl) (Nat.le_of_ble_eq_true rfl) dX3_isMultiple_15
  · refine lv_iload_n hx hb dX3_isMultiple_4 rfl (lv_at hl 0 rfl) ?_
    refine lv_iload_n hx hb dX3_isMultiple_5 rfl (lv_at hl 1 rfl) ?_
    refine lv_irem hx hb dX3_isMultiple_6 (fun h0 => c_1 (by rw [h0]; decide)) ?_
    refine lv_if_ne (tgt := 14) hx hb dX3_isMultiple_7 (by decide) (fun c_7 => ?_) (fun c_7 => ?_)
    · refine lv_iconst (v := 0) hx hb dX3_isMultiple_14 (by decide) ?_
      exact xr_i hc hlocks hr rfl hw (⟨rfl, by simp_all [← Int32.not_le]⟩) (Nat.le_of_ble_eq_true rfl) (Nat.le_of_ble_eq_true rfl) dX3_isMultiple_15
    · refine lv_iconst (v := 1) hx hb dX3_isMultiple_10 (by decide) ?_
      refine lv_goto (tgt := 15) hx hb dX3_isMultiple_11 (by decide) ?_
      exact xr_i hc hlocks hr rfl hw (⟨rfl, by simp_all [← Int32.not_le]⟩) (Nat.le_of_ble_eq_true rfl) (Nat.le_of_ble_eq_true rfl) dX3_isMultiple_15
/-- X3_breaksAt -/
def q_X3_breaksAt (σ : x_St) (i : Nat) (t : Int32) : Int32 → x_St → Prop := fun r σ' => r = (if f_brk σ i t then 1 else 0) ∧ σ' = f_brk' σ i t
set_option maxHeartbeats 4000000 in
set_option maxRecDepth 100000 in
theorem c_X3_breaksAt {l : Launch} {D : va_G} {cs : Nat → ClassId} {base : Nat} {ad : Nat → Nat → Nat} {n st : Nat → Nat} {σ : x_St} (i : Nat) (t : Int32) (h3 : i < n 3) : x_Ci l yX3_breaksAt cX3_breaksAt 3 (some .boolean) 3 0 0 D cs base ad n st σ [.ref (ad 3 i), .int t] (q_X3_breaksAt σ i t) (fun σ' => x_U D cs base ad n st σ') := by
  refine Met.ofW (cc := cX3_breaksAt) (maxL := 3) (ret := some .boolean) (by decide) rfl ?_
  intro p e s m args below meth c s₁ B hml hv
  obtain ⟨rfl, hU⟩ := hv
  have hx := B.exec
  have hb := B.bytes
  have hr := B.returns
  have hts := atoms_spec (ws := Cond.code yX3_breaksAt cX3_breaksAt 3 (some .boolean) :: Tw) B.pre
  have hown : s.vm.findClass RX3 = some m.cls := findClass_of_methodNamed B.named
  have hlocks := B.notSynchronized
  have hc : CallFix p m c cX3_breaksAt 3 s (([.ref (ad 3 i), .int t] : List Value).toArray) Tw RX3 := ⟨hx, hb, hml, hown, fun w hw => hts w (List.mem_cons_of_mem _ hw)⟩
  have hw := x_B.start hU
  have hl := lv_entry ([.ref (ad 3 i), .int t]) (n := 3) (Nat.le_of_ble_eq_true rfl)
  rw [lg_entry_eq]
  generalize (lg_sl ([.ref (ad 3 i), .int t]) ++ List.replicate (3 - (lg_sl ([.ref (ad 3 i), .int t])).length) Slot.unset).toArray = ls at hl ⊢
  have hl : lv_has ls 3 [(0, .ref (ad 3 i)), (1, .int t)] := hl
  show W p l e (x_rm 3 0 0) s m ([.ref (ad 3 i), .int t] : List Value).toArray below meth c s.heap [] 0 0 (MQ below (va_Qi (q_X3_breaksAt σ i t) (fun σ' => x_U D cs base ad n st σ') (x_A base)) ([.ref (ad 3 i), .int t] : List Value).toArray s 0 0 (x_A base)) (F0 m 0 ls [])
  refine lv_aload_n hx hb dX3_breaksAt_0 rfl (lv_at hl 0 rfl) ?_
  refine lv_dup hx hb dX3_breaksAt_1 rfl ?_
  refine xg_i hc hw 3 i 0 rfl rfl rfl rfl (by decide) (h3) mw_62 dX3_breaksAt_2 ?_
  refine lv_iload_n hx hb dX3_breaksAt_5 rfl (lv_at hl 1 rfl) ?_
  refine lv_iadd hx hb dX3_breaksAt_6 ?_
  refine xp_i hc hw 3 i 0 rfl rfl rfl rfl (by decide) (h3) rfl (ty := .int) (by decide +kernel) rfl rfl mw_62 dX3_breaksAt_7 (fun H locs hw => ?_)
  refine lv_aload_n hx hb dX3_breaksAt_10 rfl (lv_at hl 0 rfl) ?_
  refine xg_i hc hw 3 i 0 rfl rfl rfl rfl (by decide) (h3) mw_62 dX3_breaksAt_11 ?_
  refine lv_aload_n hx hb dX3_breaksAt_14 rfl (lv_at hl 0 rfl) ?_
  refine xg_i hc hw 3 i 1 rfl rfl rfl rfl (by decide) (h3) mw_64 dX3_breaksAt_15 ?_
  refine lv_isub hx hb dX3_breaksAt_18 ?_
  refine lv_topi (fun x2_19 ex2_19 => ?_)
  refine lv_istore_n (lv' := [(2, .int x2_19), (0, .ref (ad 3 i)), (1, .int t)]) hx hb dX3_breaksAt_19 rfl hl (by decide) rfl (fun ls hl => ?_)
  refine lv_iload_n hx hb dX3_breaksAt_20 rfl (lv_at hl 0 rfl) ?_
  refine lv_if_le (tgt := 53) hx hb dX3_breaksAt_21 (by decide) (fun c_21 => ?_) (fun c_21 => ?_)
  · refine lv_aload_n hx hb dX3_breaksAt_53 rfl (lv_at hl 1 rfl) ?_
    refine lv_dup hx hb dX3_breaksAt_54 rfl ?_
    refine xg_i hc hw 3 i 2 rfl rfl rfl rfl (by decide) (h3) mw_66 dX3_breaksAt_55 ?_
    refine lv_iconst (v := 1) hx hb dX3_breaksAt_58 (by decide) ?_
    refine lv_iadd hx hb dX3_breaksAt_59 ?_
    refine xp_i hc hw 3 i 2 rfl rfl rfl rfl (by decide) (h3) rfl (ty := .int) (by decide +kernel) rfl rfl mw_66 dX3_breaksAt_60 (fun H locs hw => ?_)
    refine lv_iconst (v := 0) hx hb dX3_breaksAt_63 (by decide) ?_
    exact xr_i hc hlocks hr rfl hw (by have e : x2_19 = σ 3 i 0 + t - σ 3 i 1 := (by rw [ex2_19]; simp [x_up]); clear ex2_19; exact f_brk_0 (by simp only [f_brk, ← e]; simp_all [← Int32.not_le])) (Nat.le_of_ble_eq_true rfl) (Nat.le_of_ble_eq_true rfl) dX3_breaksAt_64
  · refine lv_iload_n hx hb dX3_breaksAt_24 rfl (lv_at hl 0 rfl) ?_
    refine lv_bipush (v := 7) hx hb dX3_breaksAt_25 (by decide) ?_
    refine xc_Si hc hw (c_X3_isMultiple x2_19 7) mw_508 mw_506 mw_3 mw_507 xd_X3_isMultiple ⟨by decide, by decide⟩ (rfl) hl.1 (Nat.le_of_ble_eq_true rfl) dX3_breaksAt_27 ⟨Nat.le_of_ble_eq_true rfl, Nat.le_of_ble_eq_true rfl⟩ (fun r_27 σ_27 H locs hq hw => ?_)
    obtain ⟨hσ_27, hr_27⟩ := hq
    rw [hσ_27] at hw
    refine lv_if_ne (tgt := 41) hx hb dX3_breaksAt_30 (by decide) (fun c_30 => ?_) (fun c_30 => ?_)
    · refine lv_aload_n hx hb dX3_breaksAt_41 rfl (lv_at hl 1 rfl) ?_
      refine lv_dup hx hb dX3_breaksAt_42 rfl ?_
      refine xg_i hc hw 3 i 3 rfl rfl rfl rfl (by decide) (h3) mw_68 dX3_breaksAt_43 ?_
      refine lv_iconst (v := 1) hx hb dX3_breaksAt_46 (by decide) ?_
      refine lv_iadd hx hb dX3_breaksAt_47 ?_
      refine xp_i hc hw 3 i 3 rfl rfl rfl rfl (by decide) (h3) rfl (ty := .int) (by decide +kernel) rfl rfl mw_68 dX3_breaksAt_48 (fun H locs hw => ?_)
      refine lv_iconst (v := 1) hx hb dX3_breaksAt_51 (by decide) ?_
      exact xr_i hc hlocks hr rfl hw (by have e : x2_19 = σ 3 i 0 + t - σ 3 i 1 := (by rw [ex2_19]; simp [x_up]); clear ex2_19; exact f_brk_1 (by simp only [f_brk, ← e]; simp_all [← Int32.not_le])) (Nat.le_of_ble_eq_true rfl) (Nat.le_of_ble_eq_true rfl) dX3_breaksAt_52
    · refine lv_iload_n hx hb dX3_breaksAt_33 rfl (lv_at hl 0 rfl) ?_
      refine lv_iload_n hx hb dX3_breaksAt_34 rfl (lv_at hl 2 rfl) ?_
      refine xc_Si hc hw (c_X3_isMultiple x2_19 t) mw_508 mw_506 mw_3 mw_507 xd_X3_isMultiple ⟨by decide, by decide⟩ (rfl) hl.1 (Nat.le_of_ble_eq_true rfl) dX3_breaksAt_35 ⟨Nat.le_of_ble_eq_true rfl, Nat.le_of_ble_eq_true rfl⟩ (fun r_35 σ_35 H locs hq hw => ?_)
      obtain ⟨hσ_35, hr_35⟩ := hq
      rw [hσ_35] at hw
      refine lv_if_eq (tgt := 53) hx hb dX3_breaksAt_38 (by decide) (fun c_38 => ?_) (fun c_38 => ?_)
      · refine lv_aload_n hx hb dX3_breaksAt_53 rfl (lv_at hl 1 rfl) ?_
        refine lv_dup hx hb dX3_breaksAt_54 rfl ?_
        refine xg_i hc hw 3 i 2 rfl rfl rfl rfl (by decide) (h3) mw_66 dX3_breaksAt_55 ?_
        refine lv_iconst (v := 1) hx hb dX3_breaksAt_58 (by decide) ?_
        refine lv_iadd hx hb dX3_breaksAt_59 ?_
        refine xp_i hc hw 3 i 2 rfl rfl rfl rfl (by decide) (h3) rfl (ty := .int) (by decide +kernel) rfl rfl mw_66 dX3_breaksAt_60 (fun H locs hw => ?_)
        refine lv_iconst (v := 0) hx hb dX3_breaksAt_63 (by decide) ?_
        exact xr_i hc hlocks hr rfl hw (by have e : x2_19 = σ 3 i 0 + t - σ 3 i 1 := (by rw [ex2_19]; simp [x_up]); clear ex2_19; exact f_brk_0 (by simp only [f_brk, ← e]; simp_all [← Int32.not_le])) (Nat.le_of_ble_eq_true rfl) (Nat.le_of_ble_eq_true rfl) dX3_breaksAt_64
      · refine lv_aload_n hx hb dX3_breaksAt_41 rfl (lv_at hl 1 rfl) ?_
        refine lv_dup hx hb dX3_breaksAt_42 rfl ?_
        refine xg_i hc hw 3 i 3 rfl rfl rfl rfl (by decide) (h3) mw_68 dX3_breaksAt_43 ?_
        refine lv_iconst (v := 1) hx hb dX3_breaksAt_46 (by decide) ?_
        refine lv_iadd hx hb dX3_breaksAt_47 ?_
        refine xp_i hc hw 3 i 3 rfl rfl rfl rfl (by decide) (h3) rfl (ty := .int) (by decide +kernel) rfl rfl mw_68 dX3_breaksAt_48 (fun H locs hw => ?_)
        refine lv_iconst (v := 1) hx hb dX3_breaksAt_51 (by decide) ?_
        exact xr_i hc hlocks hr rfl hw (by have e : x2_19 = σ 3 i 0 + t - σ 3 i 1 := (by rw [ex2_19]; simp [x_up]); clear ex2_19; exact f_brk_1 (by simp only [f_brk, ← e]; simp_all [← Int32.not_le])) (Nat.le_of_ble_eq_true rfl) (Nat.le_of_ble_eq_true rfl) dX3_breaksAt_52
/-- X0_canBeDrilled -/
def q_X0_canBeDrilled (σ : x_St) (i : Nat) (a : Int32) : Int32 → x_St → Prop := fun r σ' => σ' = σ ∧ r = if σ 0 i 5 = 1 ∧ (a = 2 ∨ a = 4) ∧ (a = 2 ∨ 1 < σ 0 i 0) then 1 else 0
set_option maxHeartbeats 4000000 in
set_option maxRecDepth 100000 in
theorem c_X0_canBeDrilled {l : Launch} {D : va_G} {cs : Nat → ClassId} {base : Nat} {ad : Nat → Nat → Nat} {n st : Nat → Nat} {σ : x_St} (i : Nat) (a : Int32) (h0 : i < n 0) : x_Ci l yX0_canBeDrilled cX0_canBeDrilled 2 (some .boolean) 3 0 0 D cs base ad n st σ [.ref (ad 0 i), .int a] (q_X0_canBeDrilled σ i a) (fun σ' => x_U D cs base ad n st σ') := by
  refine Met.ofW (cc := cX0_canBeDrilled) (maxL := 2) (ret := some .boolean) (by decide) rfl ?_
  intro p e s m args below meth c s₁ B hml hv
  obtain ⟨rfl, hU⟩ := hv
  have hx := B.exec
  have hb := B.bytes
  have hr := B.returns
  have hts := atoms_spec (ws := Cond.code yX0_canBeDrilled cX0_canBeDrilled 2 (some .boolean) :: Tw) B.pre
  have hown : s.vm.findClass RX0 = some m.cls := findClass_of_methodNamed B.named
  have hlocks := B.notSynchronized
  have hc : CallFix p m c cX0_canBeDrilled 2 s (([.ref (ad 0 i), .int a] : List Value).toArray) Tw RX0 := ⟨hx, hb, hml, hown, fun w hw => hts w (List.mem_cons_of_mem _ hw)⟩
  have hw := x_B.start hU
  have hl := lv_entry ([.ref (ad 0 i), .int a]) (n := 2) (Nat.le_of_ble_eq_true rfl)
  rw [lg_entry_eq]
  generalize (lg_sl ([.ref (ad 0 i), .int a]) ++ List.replicate (2 - (lg_sl ([.ref (ad 0 i), .int a])).length) Slot.unset).toArray = ls at hl ⊢
  have hl : lv_has ls 2 [(0, .ref (ad 0 i)), (1, .int a)] := hl
  show W p l e (x_rm 3 0 0) s m ([.ref (ad 0 i), .int a] : List Value).toArray below meth c s.heap [] 0 0 (MQ below (va_Qi (q_X0_canBeDrilled σ i a) (fun σ' => x_U D cs base ad n st σ') (x_A base)) ([.ref (ad 0 i), .int a] : List Value).toArray s 0 0 (x_A base)) (F0 m 0 ls [])
  refine lv_aload_n hx hb dX0_canBeDrilled_0 rfl (lv_at hl 0 rfl) ?_
  refine xg_i hc hw 0 i 5 rfl rfl rfl rfl (by decide) (h0) mw_433 dX0_canBeDrilled_1 ?_
  refine lv_iconst (v := 1) hx hb dX0_canBeDrilled_4 (by decide) ?_
  refine lv_icmp_ne (tgt := 32) hx hb dX0_canBeDrilled_5 (by decide) (fun c_5 => ?_) (fun c_5 => ?_)
  · refine lv_iconst (v := 0) hx hb dX0_canBeDrilled_32 (by decide) ?_
    exact xr_i hc hlocks hr rfl hw (⟨rfl, by simp_all [← Int32.not_le]⟩) (Nat.le_of_ble_eq_true rfl) (Nat.le_of_ble_eq_true rfl) dX0_canBeDrilled_33
  · refine lv_iload_n hx hb dX0_canBeDrilled_8 rfl (lv_at hl 1 rfl) ?_
    refine xc_Ni (host := "ButtonWorks") hc hw (c_X6_isHoles a) mw_193 (by decide +kernel) mw_1 mw_192 xd_X6_isHoles ⟨by decide, by decide⟩ (rfl) hl.1 (Nat.le_of_ble_eq_true rfl) dX0_canBeDrilled_9 ⟨Nat.le_of_ble_eq_true rfl, Nat.le_of_ble_eq_true rfl⟩ (fun r_9 σ_9 H locs hq hw => ?_)
    obtain ⟨hσ_9, hr_9⟩ := hq
    rw [hσ_9] at hw
    refine lv_if_eq (tgt := 32) hx hb dX0_canBeDrilled_12 (by decide) (fun c_12 => ?_) (fun c_12 => ?_)
    · refine lv_iconst (v := 0) hx hb dX0_canBeDrilled_32 (by decide) ?_
      exact xr_i hc hlocks hr rfl hw (⟨rfl, by simp_all [← Int32.not_le]⟩) (Nat.le_of_ble_eq_true rfl) (Nat.le_of_ble_eq_true rfl) dX0_canBeDrilled_33
    · refine lv_iload_n hx hb dX0_canBeDrilled_15 rfl (lv_at hl 1 rfl) ?_
      refine lv_iconst (v := 2) hx hb dX0_canBeDrilled_16 (by decide) ?_
      refine lv_icmp_eq (tgt := 28) hx hb dX0_canBeDrilled_17 (by decide) (fun c_17 => ?_) (fun c_17 => ?_)
      · refine lv_iconst (v := 1) hx hb dX0_canBeDrilled_28 (by decide) ?_
        refine lv_goto (tgt := 33) hx hb dX0_canBeDrilled_29 (by decide) ?_
        exact xr_i hc hlocks hr rfl hw (⟨rfl, by simp_all [← Int32.not_le]⟩) (Nat.le_of_ble_eq_true rfl) (Nat.le_of_ble_eq_true rfl) dX0_canBeDrilled_33
      · refine lv_aload_n hx hb dX0_canBeDrilled_20 rfl (lv_at hl 0 rfl) ?_
        refine xg_i hc hw 0 i 0 rfl rfl rfl rfl (by decide) (h0) mw_423 dX0_canBeDrilled_21 ?_
        refine lv_iconst (v := 1) hx hb dX0_canBeDrilled_24 (by decide) ?_
        refine lv_icmp_le (tgt := 32) hx hb dX0_canBeDrilled_25 (by decide) (fun c_25 => ?_) (fun c_25 => ?_)
        · refine lv_iconst (v := 0) hx hb dX0_canBeDrilled_32 (by decide) ?_
          exact xr_i hc hlocks hr rfl hw (⟨rfl, by simp_all [← Int32.not_le]⟩) (Nat.le_of_ble_eq_true rfl) (Nat.le_of_ble_eq_true rfl) dX0_canBeDrilled_33
        · refine lv_iconst (v := 1) hx hb dX0_canBeDrilled_28 (by decide) ?_
          refine lv_goto (tgt := 33) hx hb dX0_canBeDrilled_29 (by decide) ?_
          exact xr_i hc hlocks hr rfl hw (⟨rfl, by simp_all [← Int32.not_le]⟩) (Nat.le_of_ble_eq_true rfl) (Nat.le_of_ble_eq_true rfl) dX0_canBeDrilled_33
/-- X0_pales -/
def q_X0_pales (σ : x_St) (i : Nat) (a : Int32) : Int32 → x_St → Prop := fun r σ' => σ' = (if σ 0 i 5 = 3 ∨ σ 0 i 5 = 4 then σ else x_up σ 0 i 2 (f_pal (σ 0 i 2) a)) ∧ r = if ¬ (σ 0 i 5 = 3 ∨ σ 0 i 5 = 4) ∧ f_pal (σ 0 i 2) a ≠ σ 0 i 2 then 1 else 0
set_option maxHeartbeats 4000000 in
set_option maxRecDepth 100000 in
theorem c_X0_pales {l : Launch} {D : va_G} {cs : Nat → ClassId} {base : Nat} {ad : Nat → Nat → Nat} {n st : Nat → Nat} {σ : x_St} (i : Nat) (a : Int32) (h0 : i < n 0) : x_Ci l yX0_pales cX0_pales 3 (some .boolean) 3 0 0 D cs base ad n st σ [.ref (ad 0 i), .int a] (q_X0_pales σ i a) (fun σ' => x_U D cs base ad n st σ') := by
  refine Met.ofW (cc := cX0_pales) (maxL := 3) (ret := some .boolean) (by decide) rfl ?_
  intro p e s m args below meth c s₁ B hml hv
  obtain ⟨rfl, hU⟩ := hv
  have hx := B.exec
  have hb := B.bytes
  have hr := B.returns
  have hts := atoms_spec (ws := Cond.code yX0_pales cX0_pales 3 (some .boolean) :: Tw) B.pre
  have hown : s.vm.findClass RX0 = some m.cls := findClass_of_methodNamed B.named
  have hlocks := B.notSynchronized
  have hc : CallFix p m c cX0_pales 3 s (([.ref (ad 0 i), .int a] : List Value).toArray) Tw RX0 := ⟨hx, hb, hml, hown, fun w hw => hts w (List.mem_cons_of_mem _ hw)⟩
  have hw := x_B.start hU
  have hl := lv_entry ([.ref (ad 0 i), .int a]) (n := 3) (Nat.le_of_ble_eq_true rfl)
  rw [lg_entry_eq]
  generalize (lg_sl ([.ref (ad 0 i), .int a]) ++ List.replicate (3 - (lg_sl ([.ref (ad 0 i), .int a])).length) Slot.unset).toArray = ls at hl ⊢
  have hl : lv_has ls 3 [(0, .ref (ad 0 i)), (1, .int a)] := hl
  show W p l e (x_rm 3 0 0) s m ([.ref (ad 0 i), .int a] : List Value).toArray below meth c s.heap [] 0 0 (MQ below (va_Qi (q_X0_pales σ i a) (fun σ' => x_U D cs base ad n st σ') (x_A base)) ([.ref (ad 0 i), .int a] : List Value).toArray s 0 0 (x_A base)) (F0 m 0 ls [])
  refine lv_aload_n hx hb dX0_pales_0 rfl (lv_at hl 0 rfl) ?_
  refine xg_i hc hw 0 i 5 rfl rfl rfl rfl (by decide) (h0) mw_433 dX0_pales_1 ?_
  refine lv_iconst (v := 3) hx hb dX0_pales_4 (by decide) ?_
  refine lv_icmp_eq (tgt := 16) hx hb dX0_pales_5 (by decide) (fun c_5 => ?_) (fun c_5 => ?_)
  · refine lv_iconst (v := 0) hx hb dX0_pales_16 (by decide) ?_
    exact xr_i hc hlocks hr rfl hw (by simp_all [q_X0_pales, f_pal, x_up_s]) (Nat.le_of_ble_eq_true rfl) (Nat.le_of_ble_eq_true rfl) dX0_pales_17
  · refine lv_aload_n hx hb dX0_pales_8 rfl (lv_at hl 0 rfl) ?_
    refine xg_i hc hw 0 i 5 rfl rfl rfl rfl (by decide) (h0) mw_433 dX0_pales_9 ?_
    refine lv_iconst (v := 4) hx hb dX0_pales_12 (by decide) ?_
    refine lv_icmp_ne (tgt := 18) hx hb dX0_pales_13 (by decide) (fun c_13 => ?_) (fun c_13 => ?_)
    · refine lv_aload_n hx hb dX0_pales_18 rfl (lv_at hl 0 rfl) ?_
      refine xg_i hc hw 0 i 2 rfl rfl rfl rfl (by decide) (h0) mw_427 dX0_pales_19 ?_
      refine lv_topi (fun x2_22 ex2_22 => ?_)
      refine lv_istore_n (lv' := [(2, .int x2_22), (0, .ref (ad 0 i)), (1, .int a)]) hx hb dX0_pales_22 rfl hl (by decide) rfl (fun ls hl => ?_)
      refine lv_aload_n hx hb dX0_pales_23 rfl (lv_at hl 1 rfl) ?_
      refine lv_iconst (v := 0) hx hb dX0_pales_24 (by decide) ?_
      refine lv_aload_n hx hb dX0_pales_25 rfl (lv_at hl 1 rfl) ?_
      refine xg_i hc hw 0 i 2 rfl rfl rfl rfl (by decide) (h0) mw_427 dX0_pales_26 ?_
      refine lv_iload_n hx hb dX0_pales_29 rfl (lv_at hl 2 rfl) ?_
      refine lv_isub hx hb dX0_pales_30 ?_
      refine va_mmax hx hb (hml.trans hl.1.symm) hown (hc.2.2.2.2 _ mw_545) (hc.2.2.2.2 _ mw_393) (hc.2.2.2.2 _ mw_11) (hc.2.2.2.2 _ mw_394) (by decide) (Nat.le_of_ble_eq_true rfl) (by decide) (by decide) dX0_pales_31 ?_
      refine xp_i hc hw 0 i 2 rfl rfl rfl rfl (by decide) (h0) rfl (ty := .int) (by decide +kernel) rfl rfl mw_427 dX0_pales_34 (fun H locs hw => ?_)
      refine lv_aload_n hx hb dX0_pales_37 rfl (lv_at hl 1 rfl) ?_
      refine xg_i hc hw 0 i 2 rfl rfl rfl rfl (by decide) (h0) mw_427 dX0_pales_38 ?_
      refine lv_iload_n hx hb dX0_pales_41 rfl (lv_at hl 0 rfl) ?_
      refine lv_icmp_eq (tgt := 49) hx hb dX0_pales_42 (by decide) (fun c_42 => ?_) (fun c_42 => ?_)
      · refine lv_iconst (v := 0) hx hb dX0_pales_49 (by decide) ?_
        exact xr_i hc hlocks hr rfl hw (by simp_all [q_X0_pales, f_pal, x_up_s]) (Nat.le_of_ble_eq_true rfl) (Nat.le_of_ble_eq_true rfl) dX0_pales_50
      · refine lv_iconst (v := 1) hx hb dX0_pales_45 (by decide) ?_
        refine lv_goto (tgt := 50) hx hb dX0_pales_46 (by decide) ?_
        exact xr_i hc hlocks hr rfl hw (by simp_all [q_X0_pales, f_pal, x_up_s]) (Nat.le_of_ble_eq_true rfl) (Nat.le_of_ble_eq_true rfl) dX0_pales_50
    · refine lv_iconst (v := 0) hx hb dX0_pales_16 (by decide) ?_
      exact xr_i hc hlocks hr rfl hw (by simp_all [q_X0_pales, f_pal, x_up_s]) (Nat.le_of_ble_eq_true rfl) (Nat.le_of_ble_eq_true rfl) dX0_pales_17
/-- X0_fits -/
def q_X0_fits (σ : x_St) (i j : Nat) (a b : Int32) : Int32 → x_St → Prop := fun r σ' => σ' = σ ∧ r = if f_fit σ i (σ 1 j 0) (σ 1 j 1) (σ 1 j 2) a b then 1 else 0
set_option maxHeartbeats 4000000 in
set_option maxRecDepth 100000 in
theorem c_X0_fits {l : Launch} {D : va_G} {cs : Nat → ClassId} {base : Nat} {ad : Nat → Nat → Nat} {n st : Nat → Nat} {σ : x_St} (i j : Nat) (a b : Int32) (h0 : i < n 0) (h1 : j < n 1) : x_Ci l yX0_fits cX0_fits 4 (some .boolean) 3 0 0 D cs base ad n st σ [.ref (ad 0 i), .ref (ad 1 j), .int a, .int b] (q_X0_fits σ i j a b) (fun σ' => x_U D cs base ad n st σ') := by
  refine Met.ofW (cc := cX0_fits) (maxL := 4) (ret := some .boolean) (by decide) rfl ?_
  intro p e s m args below meth c s₁ B hml hv
  obtain ⟨rfl, hU⟩ := hv
  have hx := B.exec
  have hb := B.bytes
  have hr := B.returns
  have hts := atoms_spec (ws := Cond.code yX0_fits cX0_fits 4 (some .boolean) :: Tw) B.pre
  have hown : s.vm.findClass RX0 = some m.cls := findClass_of_methodNamed B.named
  have hlocks := B.notSynchronized
  have hc : CallFix p m c cX0_fits 4 s (([.ref (ad 0 i), .ref (ad 1 j), .int a, .int b] : List Value).toArray) Tw RX0 := ⟨hx, hb, hml, hown, fun w hw => hts w (List.mem_cons_of_mem _ hw)⟩
  have hw := x_B.start hU
  have hl := lv_entry ([.ref (ad 0 i), .ref (ad 1 j), .int a, .int b]) (n := 4) (Nat.le_of_ble_eq_true rfl)
  rw [lg_entry_eq]
  generalize (lg_sl ([.ref (ad 0 i), .ref (ad 1 j), .int a, .int b]) ++ List.replicate (4 - (lg_sl ([.ref (ad 0 i), .ref (ad 1 j), .int a, .int b])).length) Slot.unset).toArray = ls at hl ⊢
  have hl : lv_has ls 4 [(0, .ref (ad 0 i)), (1, .ref (ad 1 j)), (2, .int a), (3, .int b)] := hl
  show W p l e (x_rm 3 0 0) s m ([.ref (ad 0 i), .ref (ad 1 j), .int a, .int b] : List Value).toArray below meth c s.heap [] 0 0 (MQ below (va_Qi (q_X0_fits σ i j a b) (fun σ' => x_U D cs base ad n st σ') (x_A base)) ([.ref (ad 0 i), .ref (ad 1 j), .int a, .int b] : List Value).toArray s 0 0 (x_A base)) (F0 m 0 ls [])
  refine lv_aload_n hx hb dX0_fits_0 rfl (lv_at hl 0 rfl) ?_
  refine xg_i hc hw 0 i 5 rfl rfl rfl rfl (by decide) (h0) mw_433 dX0_fits_1 ?_
  refine lv_iconst (v := 2) hx hb dX0_fits_4 (by decide) ?_
  refine lv_icmp_ne (tgt := 57) hx hb dX0_fits_5 (by decide) (fun c_5 => ?_) (fun c_5 => ?_)
  · refine lv_iconst (v := 0) hx hb dX0_fits_57 (by decide) ?_
    exact xr_i hc hlocks hr rfl hw (⟨rfl, by simp_all [← Int32.not_le]⟩) (Nat.le_of_ble_eq_true rfl) (Nat.le_of_ble_eq_true rfl) dX0_fits_58
  · refine lv_aload_n hx hb dX0_fits_8 rfl (lv_at hl 0 rfl) ?_
    refine xg_i hc hw 0 i 0 rfl rfl rfl rfl (by decide) (h0) mw_423 dX0_fits_9 ?_
    refine lv_aload_n hx hb dX0_fits_12 rfl (lv_at hl 1 rfl) ?_
    refine xg_i hc hw 1 j 0 rfl rfl rfl rfl (by decide) (h1) mw_561 dX0_fits_13 ?_
    refine lv_icmp_ne (tgt := 57) hx hb dX0_fits_16 (by decide) (fun c_16 => ?_) (fun c_16 => ?_)
    · refine lv_iconst (v := 0) hx hb dX0_fits_57 (by decide) ?_
      exact xr_i hc hlocks hr rfl hw (⟨rfl, by simp_all [← Int32.not_le]⟩) (Nat.le_of_ble_eq_true rfl) (Nat.le_of_ble_eq_true rfl) dX0_fits_58
    · refine lv_aload_n hx hb dX0_fits_19 rfl (lv_at hl 0 rfl) ?_
      refine xg_i hc hw 0 i 6 rfl rfl rfl rfl (by decide) (h0) mw_435 dX0_fits_20 ?_
      refine lv_aload_n hx hb dX0_fits_23 rfl (lv_at hl 1 rfl) ?_
      refine xg_i hc hw 1 j 1 rfl rfl rfl rfl (by decide) (h1) mw_565 dX0_fits_24 ?_
      refine lv_icmp_ne (tgt := 57) hx hb dX0_fits_27 (by decide) (fun c_27 => ?_) (fun c_27 => ?_)
      · refine lv_iconst (v := 0) hx hb dX0_fits_57 (by decide) ?_
        exact xr_i hc hlocks hr rfl hw (⟨rfl, by simp_all [← Int32.not_le]⟩) (Nat.le_of_ble_eq_true rfl) (Nat.le_of_ble_eq_true rfl) dX0_fits_58
      · refine lv_aload_n hx hb dX0_fits_30 rfl (lv_at hl 0 rfl) ?_
        refine xg_i hc hw 0 i 2 rfl rfl rfl rfl (by decide) (h0) mw_427 dX0_fits_31 ?_
        refine lv_aload_n hx hb dX0_fits_34 rfl (lv_at hl 1 rfl) ?_
        refine xg_i hc hw 1 j 2 rfl rfl rfl rfl (by decide) (h1) mw_569 dX0_fits_35 ?_
        refine lv_icmp_ne (tgt := 57) hx hb dX0_fits_38 (by decide) (fun c_38 => ?_) (fun c_38 => ?_)
        · refine lv_iconst (v := 0) hx hb dX0_fits_57 (by decide) ?_
          exact xr_i hc hlocks hr rfl hw (⟨rfl, by simp_all [← Int32.not_le]⟩) (Nat.le_of_ble_eq_true rfl) (Nat.le_of_ble_eq_true rfl) dX0_fits_58
        · refine lv_aload_n hx hb dX0_fits_41 rfl (lv_at hl 0 rfl) ?_
          refine xg_i hc hw 0 i 1 rfl rfl rfl rfl (by decide) (h0) mw_425 dX0_fits_42 ?_
          refine lv_iload_n hx hb dX0_fits_45 rfl (lv_at hl 2 rfl) ?_
          refine lv_iload_n hx hb dX0_fits_46 rfl (lv_at hl 3 rfl) ?_
          refine xc_Ni (host := "ButtonWorks") hc hw (c_X6_isWithin (σ 0 i 1) a b) mw_128 (by decide +kernel) mw_1 mw_127 xd_X6_isWithin ⟨by decide, by decide⟩ (rfl) hl.1 (Nat.le_of_ble_eq_true rfl) dX0_fits_47 ⟨Nat.le_of_ble_eq_true rfl, Nat.le_of_ble_eq_true rfl⟩ (fun r_47 σ_47 H locs hq hw => ?_)
          obtain ⟨hσ_47, hr_47⟩ := hq
          rw [hσ_47] at hw
          refine lv_if_eq (tgt := 57) hx hb dX0_fits_50 (by decide) (fun c_50 => ?_) (fun c_50 => ?_)
          · refine lv_iconst (v := 0) hx hb dX0_fits_57 (by decide) ?_
            exact xr_i hc hlocks hr rfl hw (⟨rfl, by simp_all [← Int32.not_le]⟩) (Nat.le_of_ble_eq_true rfl) (Nat.le_of_ble_eq_true rfl) dX0_fits_58
          · refine lv_iconst (v := 1) hx hb dX0_fits_53 (by decide) ?_
            refine lv_goto (tgt := 58) hx hb dX0_fits_54 (by decide) ?_
            exact xr_i hc hlocks hr rfl hw (⟨rfl, by simp_all [← Int32.not_le]⟩) (Nat.le_of_ble_eq_true rfl) (Nat.le_of_ble_eq_true rfl) dX0_fits_58
/-- X4_takes -/
def q_X4_takes (σ : x_St) (i j : Nat) : Int32 → x_St → Prop := fun r σ' => σ' = σ ∧ r = if f_tak σ i j then 1 else 0
set_option maxHeartbeats 4000000 in
set_option maxRecDepth 100000 in
theorem c_X4_takes {l : Launch} {D : va_G} {cs : Nat → ClassId} {base : Nat} {ad : Nat → Nat → Nat} {n st : Nat → Nat} {σ : x_St} (i j : Nat) (h4 : i < n 4) (h1 : j < n 1) : x_Ci l yX4_takes cX4_takes 2 (some .boolean) 3 0 0 D cs base ad n st σ [.ref (ad 4 i), .ref (ad 1 j)] (q_X4_takes σ i j) (fun σ' => x_U D cs base ad n st σ') := by
  refine Met.ofW (cc := cX4_takes) (maxL := 2) (ret := some .boolean) (by decide) rfl ?_
  intro p e s m args below meth c s₁ B hml hv
  obtain ⟨rfl, hU⟩ := hv
  have hx := B.exec
  have hb := B.bytes
  have hr := B.returns
  have hts := atoms_spec (ws := Cond.code yX4_takes cX4_takes 2 (some .boolean) :: Tw) B.pre
  have hown : s.vm.findClass RX4 = some m.cls := findClass_of_methodNamed B.named
  have hlocks := B.notSynchronized
  have hc : CallFix p m c cX4_takes 2 s (([.ref (ad 4 i), .ref (ad 1 j)] : List Value).toArray) Tw RX4 := ⟨hx, hb, hml, hown, fun w hw => hts w (List.mem_cons_of_mem _ hw)⟩
  have hw := x_B.start hU
  have hl := lv_entry ([.ref (ad 4 i), .ref (ad 1 j)]) (n := 2) (Nat.le_of_ble_eq_true rfl)
  rw [lg_entry_eq]
  generalize (lg_sl ([.ref (ad 4 i), .ref (ad 1 j)]) ++ List.replicate (2 - (lg_sl ([.ref (ad 4 i), .ref (ad 1 j)])).length) Slot.unset).toArray = ls at hl ⊢
  have hl : lv_has ls 2 [(0, .ref (ad 4 i)), (1, .ref (ad 1 j))] := hl
  show W p l e (x_rm 3 0 0) s m ([.ref (ad 4 i), .ref (ad 1 j)] : List Value).toArray below meth c s.heap [] 0 0 (MQ below (va_Qi (q_X4_takes σ i j) (fun σ' => x_U D cs base ad n st σ') (x_A base)) ([.ref (ad 4 i), .ref (ad 1 j)] : List Value).toArray s 0 0 (x_A base)) (F0 m 0 ls [])
  refine lv_aload_n hx hb dX4_takes_0 rfl (lv_at hl 1 rfl) ?_
  refine xg_i hc hw 1 j 6 rfl rfl rfl rfl (by decide) (h1) mw_578 dX4_takes_1 ?_
  refine lv_iconst (v := (-1)) hx hb dX4_takes_4 (by decide) ?_
  refine lv_icmp_ne (tgt := 52) hx hb dX4_takes_5 (by decide) (fun c_5 => ?_) (fun c_5 => ?_)
  · refine lv_iconst (v := 0) hx hb dX4_takes_52 (by decide) ?_
    exact xr_i hc hlocks hr rfl hw (⟨rfl, by simp_all [← Int32.not_le]⟩) (Nat.le_of_ble_eq_true rfl) (Nat.le_of_ble_eq_true rfl) dX4_takes_53
  · refine lv_aload_n hx hb dX4_takes_8 rfl (lv_at hl 1 rfl) ?_
    refine xg_i hc hw 1 j 0 rfl rfl rfl rfl (by decide) (h1) mw_560 dX4_takes_9 ?_
    refine lv_aload_n hx hb dX4_takes_12 rfl (lv_at hl 0 rfl) ?_
    refine xg_i hc hw 4 i 1 rfl rfl rfl rfl (by decide) (h4) mw_201 dX4_takes_13 ?_
    refine lv_icmp_ne (tgt := 52) hx hb dX4_takes_16 (by decide) (fun c_16 => ?_) (fun c_16 => ?_)
    · refine lv_iconst (v := 0) hx hb dX4_takes_52 (by decide) ?_
      exact xr_i hc hlocks hr rfl hw (⟨rfl, by simp_all [← Int32.not_le]⟩) (Nat.le_of_ble_eq_true rfl) (Nat.le_of_ble_eq_true rfl) dX4_takes_53
    · refine lv_aload_n hx hb dX4_takes_19 rfl (lv_at hl 1 rfl) ?_
      refine xg_i hc hw 1 j 1 rfl rfl rfl rfl (by decide) (h1) mw_564 dX4_takes_20 ?_
      refine lv_aload_n hx hb dX4_takes_23 rfl (lv_at hl 0 rfl) ?_
      refine xg_i hc hw 4 i 2 rfl rfl rfl rfl (by decide) (h4) mw_202 dX4_takes_24 ?_
      refine lv_icmp_ne (tgt := 52) hx hb dX4_takes_27 (by decide) (fun c_27 => ?_) (fun c_27 => ?_)
      · refine lv_iconst (v := 0) hx hb dX4_takes_52 (by decide) ?_
        exact xr_i hc hlocks hr rfl hw (⟨rfl, by simp_all [← Int32.not_le]⟩) (Nat.le_of_ble_eq_true rfl) (Nat.le_of_ble_eq_true rfl) dX4_takes_53
      · refine lv_aload_n hx hb dX4_takes_30 rfl (lv_at hl 1 rfl) ?_
        refine xg_i hc hw 1 j 2 rfl rfl rfl rfl (by decide) (h1) mw_568 dX4_takes_31 ?_
        refine lv_aload_n hx hb dX4_takes_34 rfl (lv_at hl 0 rfl) ?_
        refine xg_i hc hw 4 i 3 rfl rfl rfl rfl (by decide) (h4) mw_203 dX4_takes_35 ?_
        refine lv_aload_n hx hb dX4_takes_38 rfl (lv_at hl 0 rfl) ?_
        refine xg_i hc hw 4 i 4 rfl rfl rfl rfl (by decide) (h4) mw_204 dX4_takes_39 ?_
        refine xc_Ni (host := "ButtonWorks") hc hw (c_X6_isWithin (σ 1 j 2) (σ 4 i 3) (σ 4 i 4)) mw_128 (by decide +kernel) mw_1 mw_127 xd_X6_isWithin ⟨by decide, by decide⟩ (rfl) hl.1 (Nat.le_of_ble_eq_true rfl) dX4_takes_42 ⟨Nat.le_of_ble_eq_true rfl, Nat.le_of_ble_eq_true rfl⟩ (fun r_42 σ_42 H locs hq hw => ?_)
        obtain ⟨hσ_42, hr_42⟩ := hq
        rw [hσ_42] at hw
        refine lv_if_eq (tgt := 52) hx hb dX4_takes_45 (by decide) (fun c_45 => ?_) (fun c_45 => ?_)
        · refine lv_iconst (v := 0) hx hb dX4_takes_52 (by decide) ?_
          exact xr_i hc hlocks hr rfl hw (⟨rfl, by simp_all [← Int32.not_le]⟩) (Nat.le_of_ble_eq_true rfl) (Nat.le_of_ble_eq_true rfl) dX4_takes_53
        · refine lv_iconst (v := 1) hx hb dX4_takes_48 (by decide) ?_
          refine lv_goto (tgt := 53) hx hb dX4_takes_49 (by decide) ?_
          exact xr_i hc hlocks hr rfl hw (⟨rfl, by simp_all [← Int32.not_le]⟩) (Nat.le_of_ble_eq_true rfl) (Nat.le_of_ble_eq_true rfl) dX4_takes_53
/-- X4_payOn -/
def q_X4_payOn (σ : x_St) (i : Nat) (a : Int32) : Int32 → x_St → Prop := fun r σ' => σ' = σ ∧ r = σ 4 i 0 * (if σ 4 i 5 < a then σ 4 i 6 / 2 else σ 4 i 6)
set_option maxHeartbeats 4000000 in
set_option maxRecDepth 100000 in
theorem c_X4_payOn {l : Launch} {D : va_G} {cs : Nat → ClassId} {base : Nat} {ad : Nat → Nat → Nat} {n st : Nat → Nat} {σ : x_St} (i : Nat) (a : Int32) (h4 : i < n 4) : x_Ci l yX4_payOn cX4_payOn 2 (some .int) 1 0 0 D cs base ad n st σ [.ref (ad 4 i), .int a] (q_X4_payOn σ i a) (fun σ' => x_U D cs base ad n st σ') := by
  refine Met.ofW (cc := cX4_payOn) (maxL := 2) (ret := some .int) (by decide) rfl ?_
  intro p e s m args below meth c s₁ B hml hv
  obtain ⟨rfl, hU⟩ := hv
  have hx := B.exec
  have hb := B.bytes
  have hr := B.returns
  have hts := atoms_spec (ws := Cond.code yX4_payOn cX4_payOn 2 (some .int) :: Tw) B.pre
  have hown : s.vm.findClass RX4 = some m.cls := findClass_of_methodNamed B.named
  have hlocks := B.notSynchronized
  have hc : CallFix p m c cX4_payOn 2 s (([.ref (ad 4 i), .int a] : List Value).toArray) Tw RX4 := ⟨hx, hb, hml, hown, fun w hw => hts w (List.mem_cons_of_mem _ hw)⟩
  have hw := x_B.start hU
  have hl := lv_entry ([.ref (ad 4 i), .int a]) (n := 2) (Nat.le_of_ble_eq_true rfl)
  rw [lg_entry_eq]
  generalize (lg_sl ([.ref (ad 4 i), .int a]) ++ List.replicate (2 - (lg_sl ([.ref (ad 4 i), .int a])).length) Slot.unset).toArray = ls at hl ⊢
  have hl : lv_has ls 2 [(0, .ref (ad 4 i)), (1, .int a)] := hl
  show W p l e (x_rm 1 0 0) s m ([.ref (ad 4 i), .int a] : List Value).toArray below meth c s.heap [] 0 0 (MQ below (va_Qi (q_X4_payOn σ i a) (fun σ' => x_U D cs base ad n st σ') (x_A base)) ([.ref (ad 4 i), .int a] : List Value).toArray s 0 0 (x_A base)) (F0 m 0 ls [])
  refine lv_aload_n hx hb dX4_payOn_0 rfl (lv_at hl 0 rfl) ?_
  refine xg_i hc hw 4 i 0 rfl rfl rfl rfl (by decide) (h4) mw_199 dX4_payOn_1 ?_
  refine lv_iload_n hx hb dX4_payOn_4 rfl (lv_at hl 1 rfl) ?_
  refine lv_aload_n hx hb dX4_payOn_5 rfl (lv_at hl 0 rfl) ?_
  refine xg_i hc hw 4 i 5 rfl rfl rfl rfl (by decide) (h4) mw_205 dX4_payOn_6 ?_
  refine lv_icmp_le (tgt := 21) hx hb dX4_payOn_9 (by decide) (fun c_9 => ?_) (fun c_9 => ?_)
  · refine lv_aload_n hx hb dX4_payOn_21 rfl (lv_at hl 0 rfl) ?_
    refine xg_i hc hw 4 i 6 rfl rfl rfl rfl (by decide) (h4) mw_207 dX4_payOn_22 ?_
    refine lv_imul hx hb dX4_payOn_25 ?_
    exact xr_i hc hlocks hr rfl hw (⟨rfl, by simp_all [← Int32.not_le]⟩) (Nat.le_of_ble_eq_true rfl) (Nat.le_of_ble_eq_true rfl) dX4_payOn_26
  · refine lv_aload_n hx hb dX4_payOn_12 rfl (lv_at hl 0 rfl) ?_
    refine xg_i hc hw 4 i 6 rfl rfl rfl rfl (by decide) (h4) mw_207 dX4_payOn_13 ?_
    refine lv_iconst (v := 2) hx hb dX4_payOn_16 (by decide) ?_
    refine lv_idiv hx hb dX4_payOn_17 (by decide) ?_
    refine lv_goto (tgt := 25) hx hb dX4_payOn_18 (by decide) ?_
    refine lv_imul hx hb dX4_payOn_25 ?_
    exact xr_i hc hlocks hr rfl hw (⟨rfl, by simp_all [← Int32.not_le]⟩) (Nat.le_of_ble_eq_true rfl) (Nat.le_of_ble_eq_true rfl) dX4_payOn_26
/-- X1_sew -/
def q_X1_sew (σ : x_St) (i j : Nat) (b t : Int32) : x_St → Prop := fun σ' => σ' = f_sew σ i j b t
set_option maxHeartbeats 4000000 in
set_option maxRecDepth 100000 in
theorem c_X1_sew {l : Launch} {D : va_G} {cs : Nat → ClassId} {base : Nat} {ad : Nat → Nat → Nat} {n st : Nat → Nat} {σ : x_St} (i j : Nat) (b t : Int32) (hj : j < 12) (h1 : i < n 1) (h10 : i < n 10) (l10 : i < st 110) : x_Cv l yX1_sew cX1_sew 4 2 0 0 D cs base ad n st σ [.ref (ad 1 i), .int (nI j), .int b, .int t] (q_X1_sew σ i j b t) (fun σ' => x_U D cs base ad n st σ') := by
  refine Met.ofW (cc := cX1_sew) (maxL := 4) (ret := none) (by decide) rfl ?_
  intro p e s m args below meth c s₁ B hml hv
  obtain ⟨rfl, hU⟩ := hv
  have hx := B.exec
  have hb := B.bytes
  have hr := B.returns
  have hts := atoms_spec (ws := Cond.code yX1_sew cX1_sew 4 (none) :: Tw) B.pre
  have hown : s.vm.findClass RX1 = some m.cls := findClass_of_methodNamed B.named
  have hlocks := B.notSynchronized
  have hc : CallFix p m c cX1_sew 4 s (([.ref (ad 1 i), .int (nI j), .int b, .int t] : List Value).toArray) Tw RX1 := ⟨hx, hb, hml, hown, fun w hw => hts w (List.mem_cons_of_mem _ hw)⟩
  have hw := x_B.start hU
  have hl := lv_entry ([.ref (ad 1 i), .int (nI j), .int b, .int t]) (n := 4) (Nat.le_of_ble_eq_true rfl)
  rw [lg_entry_eq]
  generalize (lg_sl ([.ref (ad 1 i), .int (nI j), .int b, .int t]) ++ List.replicate (4 - (lg_sl ([.ref (ad 1 i), .int (nI j), .int b, .int t])).length) Slot.unset).toArray = ls at hl ⊢
  have hl : lv_has ls 4 [(0, .ref (ad 1 i)), (1, .int (nI j)), (2, .int b), (3, .int t)] := hl
  show W p l e (x_rm 2 0 0) s m ([.ref (ad 1 i), .int (nI j), .int b, .int t] : List Value).toArray below meth c s.heap [] 0 0 (MQ below (va_Qv (q_X1_sew σ i j b t) (fun σ' => x_U D cs base ad n st σ') (x_A base)) ([.ref (ad 1 i), .int (nI j), .int b, .int t] : List Value).toArray s 0 0 (x_A base)) (F0 m 0 ls [])
  refine lv_aload_n hx hb dX1_sew_0 rfl (lv_at hl 0 rfl) ?_
  refine xg_r hc hw 1 i 3 rfl rfl rfl rfl (by decide) (h1) (l10) mw_571 dX1_sew_1 ?_
  refine lv_iload_n hx hb dX1_sew_4 rfl (lv_at hl 1 rfl) ?_
  refine lv_iload_n hx hb dX1_sew_5 rfl (lv_at hl 2 rfl) ?_
  refine xa_st hc hw 10 i j rfl (h10) (rfl) (hj) dX1_sew_6 (fun H locs hw => ?_)
  refine lv_aload_n hx hb dX1_sew_7 rfl (lv_at hl 0 rfl) ?_
  refine lv_aload_n hx hb dX1_sew_8 rfl (lv_at hl 0 rfl) ?_
  refine xg_i hc hw 1 i 4 rfl rfl rfl rfl (by decide) (h1) mw_573 dX1_sew_9 ?_
  refine lv_iload_n hx hb dX1_sew_12 rfl (lv_at hl 3 rfl) ?_
  refine va_mmin hx hb (hml.trans hl.1.symm) hown (hc.2.2.2.2 _ mw_616) (hc.2.2.2.2 _ mw_360) (hc.2.2.2.2 _ mw_11) (hc.2.2.2.2 _ mw_361) (by decide) (Nat.le_of_ble_eq_true rfl) (by decide) (by decide) dX1_sew_13 ?_
  refine xp_i hc hw 1 i 4 rfl rfl rfl rfl (by decide) (h1) rfl (ty := .int) (by decide +kernel) rfl rfl mw_573 dX1_sew_16 (fun H locs hw => ?_)
  refine lv_aload_n hx hb dX1_sew_19 rfl (lv_at hl 0 rfl) ?_
  refine lv_aload_n hx hb dX1_sew_20 rfl (lv_at hl 0 rfl) ?_
  refine xg_i hc hw 1 i 5 rfl rfl rfl rfl (by decide) (h1) mw_575 dX1_sew_21 ?_
  refine lv_iload_n hx hb dX1_sew_24 rfl (lv_at hl 3 rfl) ?_
  refine va_mmax hx hb (hml.trans hl.1.symm) hown (hc.2.2.2.2 _ mw_617) (hc.2.2.2.2 _ mw_393) (hc.2.2.2.2 _ mw_11) (hc.2.2.2.2 _ mw_394) (by decide) (Nat.le_of_ble_eq_true rfl) (by decide) (by decide) dX1_sew_25 ?_
  refine xp_i hc hw 1 i 5 rfl rfl rfl rfl (by decide) (h1) rfl (ty := .int) (by decide +kernel) rfl rfl mw_575 dX1_sew_28 (fun H locs hw => ?_)
  exact xr_v hc hlocks hr hw (by show _ = _; simp [f_sew, x_up]) (Nat.le_of_ble_eq_true rfl) (Nat.le_of_ble_eq_true rfl) dX1_sew_31
/-- X2_relist -/
def q_X2_relist (σ : x_St) (a b : Nat) (v : Int32) : Int32 → x_St → Prop := fun r σ' => r = σ 11 0 (10 * a + b) ∧ σ' = if σ 11 0 (10 * a + b) = v then σ else x_up (x_up σ 11 0 (10 * a + b) v) 2 0 1 (σ 2 0 1 + 1)
set_option maxHeartbeats 4000000 in
set_option maxRecDepth 100000 in
theorem c_X2_relist {l : Launch} {D : va_G} {cs : Nat → ClassId} {base : Nat} {ad : Nat → Nat → Nat} {n st : Nat → Nat} {σ : x_St} (a b : Nat) (v : Int32) (ha : a < 4) (hb9 : b < 10) (h2 : 0 < n 2) (h11 : 0 < n 11) (l11 : 0 < st 111) : x_Ci l yX2_relist cX2_relist 6 (some .int) 1 0 0 D cs base ad n st σ [.ref (ad 2 0), .int (nI a), .int (nI b), .int v] (q_X2_relist σ a b v) (fun σ' => x_U D cs base ad n st σ') := by
  refine Met.ofW (cc := cX2_relist) (maxL := 6) (ret := some .int) (by decide) rfl ?_
  intro p e s m args below meth c s₁ B hml hv
  obtain ⟨rfl, hU⟩ := hv
  have hx := B.exec
  have hb := B.bytes
  have hr := B.returns
  have hts := atoms_spec (ws := Cond.code yX2_relist cX2_relist 6 (some .int) :: Tw) B.pre
  have hown : s.vm.findClass RX2 = some m.cls := findClass_of_methodNamed B.named
  have hlocks := B.notSynchronized
  have hc : CallFix p m c cX2_relist 6 s (([.ref (ad 2 0), .int (nI a), .int (nI b), .int v] : List Value).toArray) Tw RX2 := ⟨hx, hb, hml, hown, fun w hw => hts w (List.mem_cons_of_mem _ hw)⟩
  have hw := x_B.start hU
  have hl := lv_entry ([.ref (ad 2 0), .int (nI a), .int (nI b), .int v]) (n := 6) (Nat.le_of_ble_eq_true rfl)
  rw [lg_entry_eq]
  generalize (lg_sl ([.ref (ad 2 0), .int (nI a), .int (nI b), .int v]) ++ List.replicate (6 - (lg_sl ([.ref (ad 2 0), .int (nI a), .int (nI b), .int v])).length) Slot.unset).toArray = ls at hl ⊢
  have hl : lv_has ls 6 [(0, .ref (ad 2 0)), (1, .int (nI a)), (2, .int (nI b)), (3, .int v)] := hl
  show W p l e (x_rm 1 0 0) s m ([.ref (ad 2 0), .int (nI a), .int (nI b), .int v] : List Value).toArray below meth c s.heap [] 0 0 (MQ below (va_Qi (q_X2_relist σ a b v) (fun σ' => x_U D cs base ad n st σ') (x_A base)) ([.ref (ad 2 0), .int (nI a), .int (nI b), .int v] : List Value).toArray s 0 0 (x_A base)) (F0 m 0 ls [])
  refine lv_iload_n hx hb dX2_relist_0 rfl (lv_at hl 1 rfl) ?_
  refine lv_bipush (v := 10) hx hb dX2_relist_1 (by decide) ?_
  refine lv_imul hx hb dX2_relist_3 ?_
  refine lv_iload_n hx hb dX2_relist_4 rfl (lv_at hl 2 rfl) ?_
  refine lv_iadd hx hb dX2_relist_5 ?_
  refine lv_topi (fun x4_6 ex4_6 => ?_)
  refine lv_istore (lv' := [(4, .int x4_6), (0, .ref (ad 2 0)), (1, .int (nI a)), (2, .int (nI b)), (3, .int v)]) hx hb dX2_relist_6 hl (by decide) rfl (fun ls hl => ?_)
  refine lv_aload_n hx hb dX2_relist_8 rfl (lv_at hl 1 rfl) ?_
  refine xg_r hc hw 2 0 0 rfl rfl rfl rfl (by decide) (h2) (l11) mw_40 dX2_relist_9 ?_
  refine lv_iload hx hb dX2_relist_12 (lv_at hl 0 rfl) ?_
  refine xa_ld hc hw 11 0 (10 * a + b) rfl (h11) (by rw [ex4_6]; exact x_ab a b) (by show _ < 40; omega) dX2_relist_14 ?_
  refine lv_topi (fun x5_15 ex5_15 => ?_)
  refine lv_istore (lv' := [(5, .int x5_15), (4, .int x4_6), (0, .ref (ad 2 0)), (1, .int (nI a)), (2, .int (nI b)), (3, .int v)]) hx hb dX2_relist_15 hl (by decide) rfl (fun ls hl => ?_)
  refine lv_iload hx hb dX2_relist_17 (lv_at hl 0 rfl) ?_
  refine lv_iload_n hx hb dX2_relist_19 rfl (lv_at hl 5 rfl) ?_
  refine lv_icmp_eq (tgt := 41) hx hb dX2_relist_20 (by decide) (fun c_20 => ?_) (fun c_20 => ?_)
  · refine lv_iload hx hb dX2_relist_41 (lv_at hl 0 rfl) ?_
    exact xr_i hc hlocks hr rfl hw (by simp_all [q_X2_relist, x_up]) (Nat.le_of_ble_eq_true rfl) (Nat.le_of_ble_eq_true rfl) dX2_relist_43
  · refine lv_aload_n hx hb dX2_relist_23 rfl (lv_at hl 2 rfl) ?_
    refine xg_r hc hw 2 0 0 rfl rfl rfl rfl (by decide) (h2) (l11) mw_40 dX2_relist_24 ?_
    refine lv_iload hx hb dX2_relist_27 (lv_at hl 1 rfl) ?_
    refine lv_iload_n hx hb dX2_relist_29 rfl (lv_at hl 5 rfl) ?_
    refine xa_st hc hw 11 0 (10 * a + b) rfl (h11) (by rw [ex4_6]; exact x_ab a b) (by show _ < 40; omega) dX2_relist_30 (fun H locs hw => ?_)
    refine lv_aload_n hx hb dX2_relist_31 rfl (lv_at hl 2 rfl) ?_
    refine lv_dup hx hb dX2_relist_32 rfl ?_
    refine xg_i hc hw 2 0 1 rfl rfl rfl rfl (by decide) (h2) mw_41 dX2_relist_33 ?_
    refine lv_iconst (v := 1) hx hb dX2_relist_36 (by decide) ?_
    refine lv_iadd hx hb dX2_relist_37 ?_
    refine xp_i hc hw 2 0 1 rfl rfl rfl rfl (by decide) (h2) rfl (ty := .int) (by decide +kernel) rfl rfl mw_41 dX2_relist_38 (fun H locs hw => ?_)
    refine lv_iload hx hb dX2_relist_41 (lv_at hl 0 rfl) ?_
    exact xr_i hc hlocks hr rfl hw (by simp_all [q_X2_relist, x_up]) (Nat.le_of_ble_eq_true rfl) (Nat.le_of_ble_eq_true rfl) dX2_relist_43
