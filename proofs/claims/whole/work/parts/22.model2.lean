theorem x_right {σ0 σ1 : x_St} {r f v : Int32} {Q : Prop} [Decidable Q] (hq : q_X7_right σ0 f v r σ1) (h0 : σ0 7 0 0 = 0) (hf : f = if Q then 1 else 0) (hv : ¬ v = 0) : r = (if Q then 1 else 0) ∧ σ1 = x_up σ0 7 0 0 (if Q then 0 else v) := by
  obtain ⟨h1, h2⟩ := hq
  by_cases hQ : Q
  · rw [if_pos hQ] at hf
    subst hf
    simp [h0] at h1 h2
    rw [if_pos hQ, if_pos hQ, h1, x_up_id h0]
    exact ⟨h2, rfl⟩
  · rw [if_neg hQ] at hf
    subst hf
    simp [h0, hv] at h1 h2
    rw [if_neg hQ, if_neg hQ]
    exact ⟨h2, h1⟩
theorem x_th {σ σ1 : x_St} {P : Prop} [Decidable P] (h : σ1 = x_up σ 7 0 0 (if P then 0 else 1)) (hP : P) : σ1 7 0 0 = 0 := by rw [h, x_up_s, if_pos hP]
theorem x_code1 {P : Prop} [Decidable P] {a : Int32} (h : ¬ P) : (if P then a else 1) = 1 := if_neg h
theorem x_cc (x : Int32) : nI (x_c x) = nI (x_c x) := rfl
theorem x_l10 {a b : Int32} (h1 : 1 ≤ a) (h2 : a ≤ 3) (h3 : 1 ≤ b) (h4 : b ≤ 9) : 10 * a + b = nI (10 * x_c a + x_c b) ∧ 10 * x_c a + x_c b < 40 := by
  obtain ⟨e1, g1⟩ := x_ixle (Int32.le_trans (by decide) h1) h2 (N := 3) rfl (by decide)
  obtain ⟨e2, g2⟩ := x_ixle (Int32.le_trans (by decide) h3) h4 (N := 9) rfl (by decide)
  refine ⟨?_, by omega⟩
  conv => lhs; rw [e1, e2]
  rw [show (10 : Int32) = nI 10 from rfl, pk_mul, nI_add]
theorem x_up_swap {σ : x_St} {k i j k' i' j' : Nat} {a b : Int32} (h : ¬ (k = k' ∧ i = i' ∧ j = j')) : x_up (x_up σ k i j a) k' i' j' b = x_up (x_up σ k' i' j' b) k i j a := by
  funext x y z
  simp only [x_up]
  by_cases h1 : x = k' ∧ y = i' ∧ z = j'
  · rw [if_pos h1, if_neg (fun h2 => h ⟨h2.1.symm.trans h1.1, h2.2.1.symm.trans h1.2.1, h2.2.2.symm.trans h1.2.2⟩), if_pos h1]
  · rw [if_neg h1, if_neg h1]

/-- X7_shellOf -/
def q_X7_shellOf (σ : x_St) (a b : Int32) : Int32 → x_St → Prop := fun r σ' => σ' = x_up σ 7 0 0 (if (0 ≤ a ∧ a < σ 7 0 1) then (if 0 ≤ b ∧ b ≤ 3 then 0 else 1) else 1) ∧ ((0 ≤ a ∧ a < σ 7 0 1) → 0 ≤ b ∧ b ≤ 3 → r = if b = 0 then σ 36 0 (x_c a) else if b = 1 then σ 37 0 (x_c a) else if b = 2 then σ 38 0 (x_c a) else if σ 40 0 (x_c a) = 0 then 0 else 1)
set_option maxHeartbeats 4000000 in
set_option maxRecDepth 100000 in
theorem c_X7_shellOf {l : Launch} {D : va_G} {cs : Nat → ClassId} {base : Nat} {ad : Nat → Nat → Nat} {n st : Nat → Nat} {σ : x_St} (a b : Int32) (nS : Nat) (hS : σ 7 0 1 = nI nS) (hS0 : nS ≤ 30) (h7 : 0 < n 7) (hm : ∀ k, 36 ≤ k → k < 70 → 0 < n k ∧ 0 < st (100 + k)) : x_Ci l yX7_shellOf cX7_shellOf 3 (some .int) 3 0 0 D cs base ad n st σ [.ref (ad 7 0), .int a, .int b] (q_X7_shellOf σ a b) (fun σ' => x_U D cs base ad n st σ') := by
  refine Met.ofW (cc := cX7_shellOf) (maxL := 3) (ret := some .int) (by decide) rfl ?_
  intro p e s m args below meth c s₁ B hml hv
  obtain ⟨rfl, hU⟩ := hv
  have hx := B.exec
  have hb := B.bytes
  have hr := B.returns
  have hts := atoms_spec (ws := Cond.code yX7_shellOf cX7_shellOf 3 (some .int) :: Tw) B.pre
  have hown : s.vm.findClass RX7 = some m.cls := findClass_of_methodNamed B.named
  have hlocks := B.notSynchronized
  have hc : CallFix p m c cX7_shellOf 3 s (([.ref (ad 7 0), .int a, .int b] : List Value).toArray) Tw RX7 := ⟨hx, hb, hml, hown, fun w hw => hts w (List.mem_cons_of_mem _ hw)⟩
  have hw := x_B.start hU
  have hl := lv_entry ([.ref (ad 7 0), .int a, .int b]) (n := 3) (Nat.le_of_ble_eq_true rfl)
  rw [lg_entry_eq]
  generalize (lg_sl ([.ref (ad 7 0), .int a, .int b]) ++ List.replicate (3 - (lg_sl ([.ref (ad 7 0), .int a, .int b])).length) Slot.unset).toArray = ls at hl ⊢
  have hl : lv_has ls 3 [(0, .ref (ad 7 0)), (1, .int a), (2, .int b)] := hl
  show W p l e (x_rm 3 0 0) s m ([.ref (ad 7 0), .int a, .int b] : List Value).toArray below meth c s.heap [] 0 0 (MQ below (va_Qi (q_X7_shellOf σ a b) (fun σ' => x_U D cs base ad n st σ') (x_A base)) ([.ref (ad 7 0), .int a, .int b] : List Value).toArray s 0 0 (x_A base)) (F0 m 0 ls [])
  refine lv_aload_n hx hb dX7_shellOf_0 rfl (lv_at hl 0 rfl) ?_
  refine lv_iload_n hx hb dX7_shellOf_1 rfl (lv_at hl 1 rfl) ?_
  refine xc_Vi hc hw 7 0 (c_X7_isShell a h7 hm) rfl rfl (h7) mw_830 mw_827 mw_4 mw_829 mp_19 xd_X7_isShell ⟨by decide, by decide⟩ (rfl) hl.1 (Nat.le_of_ble_eq_true rfl) dX7_shellOf_2 ⟨Nat.le_of_ble_eq_true rfl, Nat.le_of_ble_eq_true rfl⟩ (fun r_2 σ_2 H locs hq hw => ?_)
  have hq_2 := hq
  obtain ⟨hr_2, hσ_2⟩ := hq_2
  refine lv_if_eq (tgt := 30) hx hb dX7_shellOf_5 (by decide) (fun c_5 => ?_) (fun c_5 => ?_)
  · refine lv_iconst (v := 0) hx hb dX7_shellOf_30 (by decide) ?_
    exact xr_i hc hlocks hr rfl hw (⟨by rw [hσ_2, if_neg (x_if0 hr_2 c_5), x_code1 (x_if0 hr_2 c_5)], fun h => absurd h (x_if0 hr_2 c_5)⟩) (Nat.le_of_ble_eq_true rfl) (Nat.le_of_ble_eq_true rfl) dX7_shellOf_31
  · have hP := x_if1 hr_2 c_5
    have cut_23 : ∀ (f : Int32), (f = if 0 ≤ b ∧ b ≤ 3 then 1 else 0) → ∀ (H : Heap) (locs : List Loc) (ls : Array Slot), lv_has ls 3 [(0, .ref (ad 7 0)), (1, .int a), (2, .int b)] → x_B D cs base ad n st σ_2 s H locs → W p l e (x_rm 3 0 0) s m ([.ref (ad 7 0), .int a, .int b] : List Value).toArray below meth c H locs 0 0 (MQ below (va_Qi (q_X7_shellOf σ a b) (fun σ' => x_U D cs base ad n st σ') (x_A base)) ([.ref (ad 7 0), .int a, .int b] : List Value).toArray s 0 0 (x_A base)) (F0 m 23 ls [.int f, .ref (ad 7 0)]) := by
      intro f hf H locs ls hl hw
      refine lv_iconst (v := 1) hx hb dX7_shellOf_23 (by decide) ?_
      refine xc_Vi hc hw 7 0 (c_X7_right f 1 h7 hm) rfl rfl (h7) mw_834 mw_831 mw_4 mw_833 mp_20 xd_X7_right ⟨by decide, by decide⟩ (rfl) hl.1 (Nat.le_of_ble_eq_true rfl) dX7_shellOf_24 ⟨Nat.le_of_ble_eq_true rfl, Nat.le_of_ble_eq_true rfl⟩ (fun r_24 σ_24 H locs hq hw => ?_)
      have hq_24 := hq
      obtain ⟨hr_24, hσ_24⟩ := x_right hq_24 (x_th hσ_2 hP) hf (by decide)
      rw [hσ_2, if_pos hP, x_up_up] at hσ_24
      refine lv_if_ne (tgt := 32) hx hb dX7_shellOf_27 (by decide) (fun c_27 => ?_) (fun c_27 => ?_)
      · refine lv_iload_n hx hb dX7_shellOf_32 rfl (lv_at hl 2 rfl) ?_
        refine lv_if_ne (tgt := 45) hx hb dX7_shellOf_33 (by decide) (fun c_33 => ?_) (fun c_33 => ?_)
        · refine lv_iload_n hx hb dX7_shellOf_45 rfl (lv_at hl 2 rfl) ?_
          refine lv_iconst (v := 1) hx hb dX7_shellOf_46 (by decide) ?_
          refine lv_icmp_ne (tgt := 59) hx hb dX7_shellOf_47 (by decide) (fun c_47 => ?_) (fun c_47 => ?_)
          · refine lv_iload_n hx hb dX7_shellOf_59 rfl (lv_at hl 2 rfl) ?_
            refine lv_iconst (v := 2) hx hb dX7_shellOf_60 (by decide) ?_
            refine lv_icmp_ne (tgt := 73) hx hb dX7_shellOf_61 (by decide) (fun c_61 => ?_) (fun c_61 => ?_)
            · refine lv_aload_n hx hb dX7_shellOf_73 rfl (lv_at hl 0 rfl) ?_
              refine xg_r hc hw 7 0 10 rfl rfl rfl rfl (by decide) (h7) ((hm 40 (by decide) (by decide)).2) mw_697 dX7_shellOf_74 ?_
              refine lv_iload_n hx hb dX7_shellOf_77 rfl (lv_at hl 1 rfl) ?_
              refine xa_zld hc hw 40 0 (x_c a) rfl ((hm 40 (by decide) (by decide)).1) ((x_ix hP.1 hP.2 hS (by omega)).1) (Nat.lt_of_lt_of_le (x_ix hP.1 hP.2 hS (by omega)).2 hS0) dX7_shellOf_78 ?_
              refine lv_if_eq (tgt := 86) hx hb dX7_shellOf_79 (by decide) (fun c_79 => ?_) (fun c_79 => ?_)
              · refine lv_iconst (v := 0) hx hb dX7_shellOf_86 (by decide) ?_
                exact xr_i hc hlocks hr rfl hw (⟨by rw [hσ_24, if_pos hP], fun _ _ => by simp_all [x_up]⟩) (Nat.le_of_ble_eq_true rfl) (Nat.le_of_ble_eq_true rfl) dX7_shellOf_87
              · refine lv_iconst (v := 1) hx hb dX7_shellOf_82 (by decide) ?_
                refine lv_goto (tgt := 87) hx hb dX7_shellOf_83 (by decide) ?_
                exact xr_i hc hlocks hr rfl hw (⟨by rw [hσ_24, if_pos hP], fun _ _ => by simp_all [x_up]⟩) (Nat.le_of_ble_eq_true rfl) (Nat.le_of_ble_eq_true rfl) dX7_shellOf_87
            · refine lv_aload_n hx hb dX7_shellOf_64 rfl (lv_at hl 0 rfl) ?_
              refine xg_r hc hw 7 0 8 rfl rfl rfl rfl (by decide) (h7) ((hm 38 (by decide) (by decide)).2) mw_695 dX7_shellOf_65 ?_
              refine lv_iload_n hx hb dX7_shellOf_68 rfl (lv_at hl 1 rfl) ?_
              refine xa_ld hc hw 38 0 (x_c a) rfl ((hm 38 (by decide) (by decide)).1) ((x_ix hP.1 hP.2 hS (by omega)).1) (Nat.lt_of_lt_of_le (x_ix hP.1 hP.2 hS (by omega)).2 hS0) dX7_shellOf_69 ?_
              refine lv_goto (tgt := 87) hx hb dX7_shellOf_70 (by decide) ?_
              exact xr_i hc hlocks hr rfl hw (⟨by rw [hσ_24, if_pos hP], fun _ _ => by simp_all [x_up]⟩) (Nat.le_of_ble_eq_true rfl) (Nat.le_of_ble_eq_true rfl) dX7_shellOf_87
          · refine lv_aload_n hx hb dX7_shellOf_50 rfl (lv_at hl 0 rfl) ?_
            refine xg_r hc hw 7 0 7 rfl rfl rfl rfl (by decide) (h7) ((hm 37 (by decide) (by decide)).2) mw_694 dX7_shellOf_51 ?_
            refine lv_iload_n hx hb dX7_shellOf_54 rfl (lv_at hl 1 rfl) ?_
            refine xa_ld hc hw 37 0 (x_c a) rfl ((hm 37 (by decide) (by decide)).1) ((x_ix hP.1 hP.2 hS (by omega)).1) (Nat.lt_of_lt_of_le (x_ix hP.1 hP.2 hS (by omega)).2 hS0) dX7_shellOf_55 ?_
            refine lv_goto (tgt := 87) hx hb dX7_shellOf_56 (by decide) ?_
            exact xr_i hc hlocks hr rfl hw (⟨by rw [hσ_24, if_pos hP], fun _ _ => by simp_all [x_up]⟩) (Nat.le_of_ble_eq_true rfl) (Nat.le_of_ble_eq_true rfl) dX7_shellOf_87
        · refine lv_aload_n hx hb dX7_shellOf_36 rfl (lv_at hl 0 rfl) ?_
          refine xg_r hc hw 7 0 6 rfl rfl rfl rfl (by decide) (h7) ((hm 36 (by decide) (by decide)).2) mw_693 dX7_shellOf_37 ?_
          refine lv_iload_n hx hb dX7_shellOf_40 rfl (lv_at hl 1 rfl) ?_
          refine xa_ld hc hw 36 0 (x_c a) rfl ((hm 36 (by decide) (by decide)).1) ((x_ix hP.1 hP.2 hS (by omega)).1) (Nat.lt_of_lt_of_le (x_ix hP.1 hP.2 hS (by omega)).2 hS0) dX7_shellOf_41 ?_
          refine lv_goto (tgt := 87) hx hb dX7_shellOf_42 (by decide) ?_
          exact xr_i hc hlocks hr rfl hw (⟨by rw [hσ_24, if_pos hP], fun _ _ => by simp_all [x_up]⟩) (Nat.le_of_ble_eq_true rfl) (Nat.le_of_ble_eq_true rfl) dX7_shellOf_87
      · refine lv_iconst (v := 0) hx hb dX7_shellOf_30 (by decide) ?_
        exact xr_i hc hlocks hr rfl hw (⟨by rw [hσ_24, if_pos hP], fun _ h => absurd h (x_if0 hr_24 c_27)⟩) (Nat.le_of_ble_eq_true rfl) (Nat.le_of_ble_eq_true rfl) dX7_shellOf_31
    refine lv_aload_n hx hb dX7_shellOf_8 rfl (lv_at hl 0 rfl) ?_
    refine lv_iload_n hx hb dX7_shellOf_9 rfl (lv_at hl 2 rfl) ?_
    refine lv_if_lt (tgt := 22) hx hb dX7_shellOf_10 (by decide) (fun c_10 => ?_) (fun c_10 => ?_)
    · refine lv_iconst (v := 0) hx hb dX7_shellOf_22 (by decide) ?_
      exact cut_23 _ (by simp_all [← Int32.not_le]) _ _ _ (lv_sub hl [0, 1, 2] rfl) hw
    · refine lv_iload_n hx hb dX7_shellOf_13 rfl (lv_at hl 2 rfl) ?_
      refine lv_iconst (v := 3) hx hb dX7_shellOf_14 (by decide) ?_
      refine lv_icmp_gt (tgt := 22) hx hb dX7_shellOf_15 (by decide) (fun c_15 => ?_) (fun c_15 => ?_)
      · refine lv_iconst (v := 0) hx hb dX7_shellOf_22 (by decide) ?_
        exact cut_23 _ (by simp_all [← Int32.not_le]) _ _ _ (lv_sub hl [0, 1, 2] rfl) hw
      · refine lv_iconst (v := 1) hx hb dX7_shellOf_18 (by decide) ?_
        refine lv_goto (tgt := 23) hx hb dX7_shellOf_19 (by decide) ?_
        exact cut_23 _ (by simp_all [← Int32.not_le]) _ _ _ (lv_sub hl [0, 1, 2] rfl) hw
/-- X7_list -/
def q_X7_list (σ : x_St) (a b d : Int32) : Int32 → x_St → Prop := fun r σ' => σ' = x_up (if (1 ≤ a ∧ a ≤ 3 ∧ 1 ≤ b ∧ b ≤ 9 ∧ 0 ≤ d ∧ d ≤ 999) then x_up σ 41 0 (10 * x_c a + x_c b) d else σ) 7 0 0 (if (1 ≤ a ∧ a ≤ 3 ∧ 1 ≤ b ∧ b ≤ 9 ∧ 0 ≤ d ∧ d ≤ 999) then 0 else 1) ∧ ((1 ≤ a ∧ a ≤ 3 ∧ 1 ≤ b ∧ b ≤ 9 ∧ 0 ≤ d ∧ d ≤ 999) → r = σ 41 0 (10 * x_c a + x_c b))
set_option maxHeartbeats 4000000 in
set_option maxRecDepth 100000 in
theorem c_X7_list {l : Launch} {D : va_G} {cs : Nat → ClassId} {base : Nat} {ad : Nat → Nat → Nat} {n st : Nat → Nat} {σ : x_St} (a b d : Int32) (h7 : 0 < n 7) (hm : ∀ k, 36 ≤ k → k < 70 → 0 < n k ∧ 0 < st (100 + k)) : x_Ci l yX7_list cX7_list 5 (some .int) 3 0 0 D cs base ad n st σ [.ref (ad 7 0), .int a, .int b, .int d] (q_X7_list σ a b d) (fun σ' => x_U D cs base ad n st σ') := by
  refine Met.ofW (cc := cX7_list) (maxL := 5) (ret := some .int) (by decide) rfl ?_
  intro p e s m args below meth c s₁ B hml hv
  obtain ⟨rfl, hU⟩ := hv
  have hx := B.exec
  have hb := B.bytes
  have hr := B.returns
  have hts := atoms_spec (ws := Cond.code yX7_list cX7_list 5 (some .int) :: Tw) B.pre
  have hown : s.vm.findClass RX7 = some m.cls := findClass_of_methodNamed B.named
  have hlocks := B.notSynchronized
  have hc : CallFix p m c cX7_list 5 s (([.ref (ad 7 0), .int a, .int b, .int d] : List Value).toArray) Tw RX7 := ⟨hx, hb, hml, hown, fun w hw => hts w (List.mem_cons_of_mem _ hw)⟩
  have hw := x_B.start hU
  have hl := lv_entry ([.ref (ad 7 0), .int a, .int b, .int d]) (n := 5) (Nat.le_of_ble_eq_true rfl)
  rw [lg_entry_eq]
  generalize (lg_sl ([.ref (ad 7 0), .int a, .int b, .int d]) ++ List.replicate (5 - (lg_sl ([.ref (ad 7 0), .int a, .int b, .int d])).length) Slot.unset).toArray = ls at hl ⊢
  have hl : lv_has ls 5 [(0, .ref (ad 7 0)), (1, .int a), (2, .int b), (3, .int d)] := hl
  show W p l e (x_rm 3 0 0) s m ([.ref (ad 7 0), .int a, .int b, .int d] : List Value).toArray below meth c s.heap [] 0 0 (MQ below (va_Qi (q_X7_list σ a b d) (fun σ' => x_U D cs base ad n st σ') (x_A base)) ([.ref (ad 7 0), .int a, .int b, .int d] : List Value).toArray s 0 0 (x_A base)) (F0 m 0 ls [])
  refine lv_aload_n hx hb dX7_list_0 rfl (lv_at hl 0 rfl) ?_
  refine lv_iconst (v := 0) hx hb dX7_list_1 (by decide) ?_
  refine xp_i hc hw 7 0 0 rfl rfl rfl rfl (by decide) (h7) rfl (ty := .int) (by decide +kernel) rfl rfl mw_687 dX7_list_2 (fun H locs hw => ?_)
  have cut_43 : ∀ (f : Int32), (f = if (1 ≤ a ∧ a ≤ 3 ∧ 1 ≤ b ∧ b ≤ 9 ∧ 0 ≤ d ∧ d ≤ 999) then 1 else 0) → ∀ (H : Heap) (locs : List Loc) (ls : Array Slot), lv_has ls 5 [(0, .ref (ad 7 0)), (1, .int a), (2, .int b), (3, .int d)] → x_B D cs base ad n st (x_up σ 7 0 0 0) s H locs → W p l e (x_rm 3 0 0) s m ([.ref (ad 7 0), .int a, .int b, .int d] : List Value).toArray below meth c H locs 0 0 (MQ below (va_Qi (q_X7_list σ a b d) (fun σ' => x_U D cs base ad n st σ') (x_A base)) ([.ref (ad 7 0), .int a, .int b, .int d] : List Value).toArray s 0 0 (x_A base)) (F0 m 43 ls [.int f, .ref (ad 7 0)]) := by
    intro f hf H locs ls hl hw
    refine lv_iconst (v := 1) hx hb dX7_list_43 (by decide) ?_
    refine xc_Vi hc hw 7 0 (c_X7_right f 1 h7 hm) rfl rfl (h7) mw_834 mw_831 mw_4 mw_833 mp_20 xd_X7_right ⟨by decide, by decide⟩ (rfl) hl.1 (Nat.le_of_ble_eq_true rfl) dX7_list_44 ⟨Nat.le_of_ble_eq_true rfl, Nat.le_of_ble_eq_true rfl⟩ (fun r_44 σ_44 H locs hq hw => ?_)
    have hq_44 := hq
    obtain ⟨hr_44, hσ_44⟩ := x_right hq_44 x_up_s hf (by decide)
    rw [x_up_up] at hσ_44
    refine lv_if_ne (tgt := 52) hx hb dX7_list_47 (by decide) (fun c_47 => ?_) (fun c_47 => ?_)
    · have hP : (1 ≤ a ∧ a ≤ 3 ∧ 1 ≤ b ∧ b ≤ 9 ∧ 0 ≤ d ∧ d ≤ 999) := x_if1 hr_44 c_47
      rw [if_pos hP] at hσ_44
      have hix := x_l10 hP.1 hP.2.1 hP.2.2.1 hP.2.2.2.1
      refine lv_aload_n hx hb dX7_list_52 rfl (lv_at hl 0 rfl) ?_
      refine xg_r hc hw 7 0 11 rfl rfl rfl rfl (by decide) (h7) ((hm 41 (by decide) (by decide)).2) mw_698 dX7_list_53 ?_
      refine lv_bipush (v := 10) hx hb dX7_list_56 (by decide) ?_
      refine lv_iload_n hx hb dX7_list_58 rfl (lv_at hl 1 rfl) ?_
      refine lv_imul hx hb dX7_list_59 ?_
      refine lv_iload_n hx hb dX7_list_60 rfl (lv_at hl 2 rfl) ?_
      refine lv_iadd hx hb dX7_list_61 ?_
      refine xa_ld hc hw 41 0 (10 * x_c a + x_c b) rfl ((hm 41 (by decide) (by decide)).1) (hix.1) (hix.2) dX7_list_62 ?_
      refine lv_topi (fun x4_63 ex4_63 => ?_)
      refine lv_istore (lv' := [(4, .int x4_63), (0, .ref (ad 7 0)), (1, .int a), (2, .int b), (3, .int d)]) hx hb dX7_list_63 hl (by decide) rfl (fun ls hl => ?_)
      refine lv_aload_n hx hb dX7_list_65 rfl (lv_at hl 1 rfl) ?_
      refine xg_r hc hw 7 0 11 rfl rfl rfl rfl (by decide) (h7) ((hm 41 (by decide) (by decide)).2) mw_698 dX7_list_66 ?_
      refine lv_bipush (v := 10) hx hb dX7_list_69 (by decide) ?_
      refine lv_iload_n hx hb dX7_list_71 rfl (lv_at hl 2 rfl) ?_
      refine lv_imul hx hb dX7_list_72 ?_
      refine lv_iload_n hx hb dX7_list_73 rfl (lv_at hl 3 rfl) ?_
      refine lv_iadd hx hb dX7_list_74 ?_
      refine lv_iload_n hx hb dX7_list_75 rfl (lv_at hl 4 rfl) ?_
      refine xa_st hc hw 41 0 (10 * x_c a + x_c b) rfl ((hm 41 (by decide) (by decide)).1) (hix.1) (hix.2) dX7_list_76 (fun H locs hw => ?_)
      refine lv_iload hx hb dX7_list_77 (lv_at hl 0 rfl) ?_
      exact xr_i hc hlocks hr rfl hw (⟨by rw [hσ_44, if_pos hP, if_pos hP]; exact x_up_swap (by simp), fun _ => by rw [ex4_63, hσ_44]; simp [x_up]⟩) (Nat.le_of_ble_eq_true rfl) (Nat.le_of_ble_eq_true rfl) dX7_list_79
    · refine lv_iconst (v := 0) hx hb dX7_list_50 (by decide) ?_
      exact xr_i hc hlocks hr rfl hw (⟨by rw [hσ_44, if_neg (x_if0 hr_44 c_47), if_neg (x_if0 hr_44 c_47)], fun h => absurd h (x_if0 hr_44 c_47)⟩) (Nat.le_of_ble_eq_true rfl) (Nat.le_of_ble_eq_true rfl) dX7_list_51
  refine lv_aload_n hx hb dX7_list_5 rfl (lv_at hl 0 rfl) ?_
  refine lv_iload_n hx hb dX7_list_6 rfl (lv_at hl 1 rfl) ?_
  refine lv_iconst (v := 1) hx hb dX7_list_7 (by decide) ?_
  refine lv_icmp_lt (tgt := 42) hx hb dX7_list_8 (by decide) (fun c_8 => ?_) (fun c_8 => ?_)
  · refine lv_iconst (v := 0) hx hb dX7_list_42 (by decide) ?_
    exact cut_43 _ (by simp_all [← Int32.not_le]) _ _ _ (lv_sub hl [0, 1, 2, 3] rfl) hw
  · refine lv_iload_n hx hb dX7_list_11 rfl (lv_at hl 1 rfl) ?_
    refine lv_iconst (v := 3) hx hb dX7_list_12 (by decide) ?_
    refine lv_icmp_gt (tgt := 42) hx hb dX7_list_13 (by decide) (fun c_13 => ?_) (fun c_13 => ?_)
    · refine lv_iconst (v := 0) hx hb dX7_list_42 (by decide) ?_
      exact cut_43 _ (by simp_all [← Int32.not_le]) _ _ _ (lv_sub hl [0, 1, 2, 3] rfl) hw
    · refine lv_iload_n hx hb dX7_list_16 rfl (lv_at hl 2 rfl) ?_
      refine lv_iconst (v := 1) hx hb dX7_list_17 (by decide) ?_
      refine lv_icmp_lt (tgt := 42) hx hb dX7_list_18 (by decide) (fun c_18 => ?_) (fun c_18 => ?_)
      · refine lv_iconst (v := 0) hx hb dX7_list_42 (by decide) ?_
        exact cut_43 _ (by simp_all [← Int32.not_le]) _ _ _ (lv_sub hl [0, 1, 2, 3] rfl) hw
      · refine lv_iload_n hx hb dX7_list_21 rfl (lv_at hl 2 rfl) ?_
        refine lv_bipush (v := 9) hx hb dX7_list_22 (by decide) ?_
        refine lv_icmp_gt (tgt := 42) hx hb dX7_list_24 (by decide) (fun c_24 => ?_) (fun c_24 => ?_)
        · refine lv_iconst (v := 0) hx hb dX7_list_42 (by decide) ?_
          exact cut_43 _ (by simp_all [← Int32.not_le]) _ _ _ (lv_sub hl [0, 1, 2, 3] rfl) hw
        · refine lv_iload_n hx hb dX7_list_27 rfl (lv_at hl 3 rfl) ?_
          refine lv_if_lt (tgt := 42) hx hb dX7_list_28 (by decide) (fun c_28 => ?_) (fun c_28 => ?_)
          · refine lv_iconst (v := 0) hx hb dX7_list_42 (by decide) ?_
            exact cut_43 _ (by simp_all [← Int32.not_le]) _ _ _ (lv_sub hl [0, 1, 2, 3] rfl) hw
          · refine lv_iload_n hx hb dX7_list_31 rfl (lv_at hl 3 rfl) ?_
            refine lv_sipush (v := 999) hx hb dX7_list_32 (by decide) ?_
            refine lv_icmp_gt (tgt := 42) hx hb dX7_list_35 (by decide) (fun c_35 => ?_) (fun c_35 => ?_)
            · refine lv_iconst (v := 0) hx hb dX7_list_42 (by decide) ?_
              exact cut_43 _ (by simp_all [← Int32.not_le]) _ _ _ (lv_sub hl [0, 1, 2, 3] rfl) hw
            · refine lv_iconst (v := 1) hx hb dX7_list_38 (by decide) ?_
              refine lv_goto (tgt := 43) hx hb dX7_list_39 (by decide) ?_
              exact cut_43 _ (by simp_all [← Int32.not_le]) _ _ _ (lv_sub hl [0, 1, 2, 3] rfl) hw
