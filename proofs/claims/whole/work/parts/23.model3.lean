theorem x_t7 (σ : x_St) (v : Int32) (j : Nat) (h : ¬ j = 0) : x_up σ 7 0 0 v 7 0 j = σ 7 0 j := x_up_n (fun q => h q.2.2)
theorem x_cn {n : Nat} (h : n < 2 ^ 31) : x_c (nI n) = n := nI_clamp h
theorem x_eq8 {b : Int32} (h : b < 0 ∨ nI 8 ≤ b) (h1 : 0 ≤ b) (h2 : b ≤ 8) : b = nI 8 := by
  rcases h with h | h
  · exact absurd h1 (Int32.not_le.mpr h)
  · exact Int32.le_antisymm h2 h
theorem x_l12 {a b : Int32} {N : Nat} (h1 : a = nI (x_c a) ∧ x_c a < N) (h2 : b = nI (x_c b) ∧ x_c b ≤ 11) (hN : N ≤ 30) : 12 * a + b = nI (12 * x_c a + x_c b) ∧ 12 * x_c a + x_c b < 360 := by
  obtain ⟨e1, g1⟩ := h1
  obtain ⟨e2, g2⟩ := h2
  refine ⟨?_, by omega⟩
  conv => lhs; rw [e1, e2]
  rw [show (12 : Int32) = nI 12 from rfl, pk_mul, nI_add]
theorem x_ge {x y : Int32} {a b : Nat} (hx : x = nI a) (hy : y = nI b) (ha : a < 2 ^ 31) (hb : b < 2 ^ 31) (h : y ≤ x) : b ≤ a := by
  rw [hx, hy] at h; exact (nI_leI hb ha).mp h
theorem x_nge {x y : Int32} {a b : Nat} (hx : x = nI a) (hy : y = nI b) (ha : a < 2 ^ 31) (hb : b < 2 ^ 31) (h : ¬ y ≤ x) : a < b := by
  rw [hx, hy] at h; exact Nat.lt_of_not_le (fun q => h ((nI_leI hb ha).mpr q))
abbrev m_for (σ : x_St) (c o : Nat) : Prop := σ 58 0 c = -1 ∧ σ 55 0 c = σ 61 0 o ∧ σ 56 0 c = σ 62 0 o ∧ σ 63 0 o ≤ σ 57 0 c ∧ σ 57 0 c ≤ σ 64 0 o
abbrev m_fit (σ : x_St) (b : Nat) (s1 s2 s3 s4 s5 : Int32) : Prop := σ 46 0 b = 2 ∧ σ 42 0 b = s1 ∧ σ 47 0 b = s2 ∧ σ 44 0 b = s3 ∧ s4 ≤ σ 43 0 b ∧ σ 43 0 b ≤ s4 + s5
def m_cnt (σ : x_St) (v : Int32) : Nat → Nat
  | 0 => 0
  | k + 1 => m_cnt σ v k + if σ 46 0 k = v then 1 else 0
abbrev m_brk (σ : x_St) (mm bb : Nat) : Prop := 0 < σ 51 0 mm + σ 43 0 bb - σ 52 0 mm ∧ ((σ 51 0 mm + σ 43 0 bb - σ 52 0 mm) - (σ 51 0 mm + σ 43 0 bb - σ 52 0 mm) / 7 * 7 = 0 ∨ (σ 51 0 mm + σ 43 0 bb - σ 52 0 mm) - (σ 51 0 mm + σ 43 0 bb - σ 52 0 mm) / σ 43 0 bb * σ 43 0 bb = 0)
abbrev m_ok (σ : x_St) (mm bb : Nat) (h : Int32) : Prop := if 3 ≤ nI mm then σ 46 0 bb = 1 ∧ (h = 2 ∨ (h = 4 ∧ ¬ σ 42 0 bb = 1)) else σ 46 0 bb = 0
def m_wk (σ : x_St) (mm bb : Nat) (h : Int32) : Int32 × x_St :=
  if ¬ m_ok σ mm bb h then (-1, σ) else
  if m_brk σ mm bb then (0, x_up (x_up (x_up (x_up σ 51 0 mm (σ 51 0 mm + σ 43 0 bb)) 46 0 bb 3) 48 0 bb (nI mm)) 54 0 mm (σ 54 0 mm + 1)) else
  (1, x_up (x_up (x_up (x_up σ 51 0 mm (σ 51 0 mm + σ 43 0 bb)) 46 0 bb (if 3 ≤ nI mm then 2 else 1)) 47 0 bb (if 3 ≤ nI mm then h else 0)) 53 0 mm (σ 53 0 mm + 1))

/-- X7_button -/
def q_X7_button (σ : x_St) (a b : Int32) : Int32 → x_St → Prop := fun r σ' => σ' = x_up σ 7 0 0 (if (0 ≤ a ∧ a < σ 7 0 2) then (if 0 ≤ b ∧ b ≤ 8 then 0 else 1) else 1) ∧ ((0 ≤ a ∧ a < σ 7 0 2) → 0 ≤ b ∧ b ≤ 8 → r = σ (42 + x_c b) 0 (x_c a))
set_option maxHeartbeats 4000000 in
set_option maxRecDepth 100000 in
theorem c_X7_button {l : Launch} {D : va_G} {cs : Nat → ClassId} {base : Nat} {ad : Nat → Nat → Nat} {n st : Nat → Nat} {σ : x_St} (a b : Int32) (nB : Nat) (hB : σ 7 0 2 = nI nB) (hB0 : nB ≤ 400) (h7 : 0 < n 7) (hm : ∀ k, 36 ≤ k → k < 70 → 0 < n k ∧ 0 < st (100 + k)) : x_Ci l yX7_button cX7_button 3 (some .int) 3 0 0 D cs base ad n st σ [.ref (ad 7 0), .int a, .int b] (q_X7_button σ a b) (fun σ' => x_U D cs base ad n st σ') := by
  refine Met.ofW (cc := cX7_button) (maxL := 3) (ret := some .int) (by decide) rfl ?_
  intro p e s m args below meth c s₁ B hml hv
  obtain ⟨rfl, hU⟩ := hv
  have hx := B.exec
  have hb := B.bytes
  have hr := B.returns
  have hts := atoms_spec (ws := Cond.code yX7_button cX7_button 3 (some .int) :: Tw) B.pre
  have hown : s.vm.findClass RX7 = some m.cls := findClass_of_methodNamed B.named
  have hlocks := B.notSynchronized
  have hc : CallFix p m c cX7_button 3 s (([.ref (ad 7 0), .int a, .int b] : List Value).toArray) Tw RX7 := ⟨hx, hb, hml, hown, fun w hw => hts w (List.mem_cons_of_mem _ hw)⟩
  have hw := x_B.start hU
  have hl := lv_entry ([.ref (ad 7 0), .int a, .int b]) (n := 3) (Nat.le_of_ble_eq_true rfl)
  rw [lg_entry_eq]
  generalize (lg_sl ([.ref (ad 7 0), .int a, .int b]) ++ List.replicate (3 - (lg_sl ([.ref (ad 7 0), .int a, .int b])).length) Slot.unset).toArray = ls at hl ⊢
  have hl : lv_has ls 3 [(0, .ref (ad 7 0)), (1, .int a), (2, .int b)] := hl
  show W p l e (x_rm 3 0 0) s m ([.ref (ad 7 0), .int a, .int b] : List Value).toArray below meth c s.heap [] 0 0 (MQ below (va_Qi (q_X7_button σ a b) (fun σ' => x_U D cs base ad n st σ') (x_A base)) ([.ref (ad 7 0), .int a, .int b] : List Value).toArray s 0 0 (x_A base)) (F0 m 0 ls [])
  refine lv_aload_n hx hb dX7_button_0 rfl (lv_at hl 0 rfl) ?_
  refine lv_iconst (v := 0) hx hb dX7_button_1 (by decide) ?_
  refine xp_i hc hw 7 0 0 rfl rfl rfl rfl (by decide) (h7) rfl (ty := .int) (by decide +kernel) rfl rfl mw_687 dX7_button_2 (fun H locs hw => ?_)
  refine lv_aload_n hx hb dX7_button_5 rfl (lv_at hl 0 rfl) ?_
  refine lv_iload_n hx hb dX7_button_6 rfl (lv_at hl 1 rfl) ?_
  refine xc_Vi hc hw 7 0 (c_X7_isButton a h7 hm) rfl rfl (h7) mw_879 mw_876 mw_4 mw_878 mp_26 xd_X7_isButton ⟨by decide, by decide⟩ (rfl) hl.1 (Nat.le_of_ble_eq_true rfl) dX7_button_7 ⟨Nat.le_of_ble_eq_true rfl, Nat.le_of_ble_eq_true rfl⟩ (fun r_7 σ_7 H locs hq hw => ?_)
  have hq_7 := hq
  obtain ⟨hr_7, hσ_7⟩ := hq_7 x_up_s
  rw [x_up_up] at hσ_7
  rw [x_t7 _ _ 2 (by decide)] at hr_7 hσ_7
  refine lv_if_eq (tgt := 36) hx hb dX7_button_10 (by decide) (fun c_10 => ?_) (fun c_10 => ?_)
  · refine lv_iconst (v := 0) hx hb dX7_button_36 (by decide) ?_
    exact xr_i hc hlocks hr rfl hw (⟨by rw [hσ_7, if_neg (x_if0 hr_7 c_10), x_code1 (x_if0 hr_7 c_10)], fun h => absurd h (x_if0 hr_7 c_10)⟩) (Nat.le_of_ble_eq_true rfl) (Nat.le_of_ble_eq_true rfl) dX7_button_37
  · have hP := x_if1 hr_7 c_10
    have cut_29 : ∀ (f : Int32), (f = if 0 ≤ b ∧ b ≤ 8 then 1 else 0) → ∀ (H : Heap) (locs : List Loc) (ls : Array Slot), lv_has ls 3 [(0, .ref (ad 7 0)), (1, .int a), (2, .int b)] → x_B D cs base ad n st σ_7 s H locs → W p l e (x_rm 3 0 0) s m ([.ref (ad 7 0), .int a, .int b] : List Value).toArray below meth c H locs 0 0 (MQ below (va_Qi (q_X7_button σ a b) (fun σ' => x_U D cs base ad n st σ') (x_A base)) ([.ref (ad 7 0), .int a, .int b] : List Value).toArray s 0 0 (x_A base)) (F0 m 29 ls [.int f, .ref (ad 7 0)]) := by
      intro f hf H locs ls hl hw
      refine lv_iconst (v := 1) hx hb dX7_button_29 (by decide) ?_
      refine xc_Vi hc hw 7 0 (c_X7_right f 1 h7 hm) rfl rfl (h7) mw_834 mw_831 mw_4 mw_833 mp_20 xd_X7_right ⟨by decide, by decide⟩ (rfl) hl.1 (Nat.le_of_ble_eq_true rfl) dX7_button_30 ⟨Nat.le_of_ble_eq_true rfl, Nat.le_of_ble_eq_true rfl⟩ (fun r_30 σ_30 H locs hq hw => ?_)
      have hq_30 := hq
      obtain ⟨hr_30, hσ_30⟩ := x_right hq_30 (x_th hσ_7 hP) hf (by decide)
      rw [hσ_7, if_pos hP, x_up_up] at hσ_30
      refine lv_if_ne (tgt := 38) hx hb dX7_button_33 (by decide) (fun c_33 => ?_) (fun c_33 => ?_)
      · have hQ := x_if1 hr_30 c_33
        refine lv_iload_n hx hb dX7_button_38 rfl (lv_at hl 2 rfl) ?_
        rcases x_sw b 8 (by decide) with hsw | ⟨jsw, hjsw, hsw⟩
        · refine lv_tableOut (tgt := 140) hx hb dX7_button_39 (x_swo hsw) (by decide) ?_
          refine lv_aload_n hx hb dX7_button_140 rfl (lv_at hl 0 rfl) ?_
          refine xg_r hc hw 7 0 20 rfl rfl rfl rfl (by decide) (h7) ((hm 50 (by decide) (by decide)).2) mw_707 dX7_button_141 ?_
          refine lv_iload_n hx hb dX7_button_144 rfl (lv_at hl 1 rfl) ?_
          refine xa_ld hc hw 50 0 (x_c a) rfl ((hm 50 (by decide) (by decide)).1) ((x_ix hP.1 hP.2 hB (by omega)).1) (Nat.lt_of_lt_of_le (x_ix hP.1 hP.2 hB (by omega)).2 hB0) dX7_button_145 ?_
          exact xr_i hc hlocks hr rfl hw (⟨by rw [hσ_30, if_pos hP], fun _ _ => by rw [hσ_30, x_eq8 hsw hQ.1 hQ.2, x_cn (by decide)]; simp [x_up]⟩) (Nat.le_of_ble_eq_true rfl) (Nat.le_of_ble_eq_true rfl) dX7_button_146
        · rcases (by omega : jsw = 0 ∨ jsw = 1 ∨ jsw = 2 ∨ jsw = 3 ∨ jsw = 4 ∨ jsw = 5 ∨ jsw = 6 ∨ jsw = 7) with rfl | rfl | rfl | rfl | rfl | rfl | rfl | rfl
          · refine lv_tableIn (tgt := 84) (off := 45) hx hb dX7_button_39 (x_swl hsw) (x_swh hsw (by decide)) (by rw [x_swn hsw (by decide)]; rfl) (by decide) ?_
            refine lv_aload_n hx hb dX7_button_84 rfl (lv_at hl 0 rfl) ?_
            refine xg_r hc hw 7 0 12 rfl rfl rfl rfl (by decide) (h7) ((hm 42 (by decide) (by decide)).2) mw_699 dX7_button_85 ?_
            refine lv_iload_n hx hb dX7_button_88 rfl (lv_at hl 1 rfl) ?_
            refine xa_ld hc hw 42 0 (x_c a) rfl ((hm 42 (by decide) (by decide)).1) ((x_ix hP.1 hP.2 hB (by omega)).1) (Nat.lt_of_lt_of_le (x_ix hP.1 hP.2 hB (by omega)).2 hB0) dX7_button_89 ?_
            exact xr_i hc hlocks hr rfl hw (⟨by rw [hσ_30, if_pos hP], fun _ _ => by rw [hσ_30, hsw, x_cn (by decide)]; simp [x_up]⟩) (Nat.le_of_ble_eq_true rfl) (Nat.le_of_ble_eq_true rfl) dX7_button_90
          · refine lv_tableIn (tgt := 91) (off := 52) hx hb dX7_button_39 (x_swl hsw) (x_swh hsw (by decide)) (by rw [x_swn hsw (by decide)]; rfl) (by decide) ?_
            refine lv_aload_n hx hb dX7_button_91 rfl (lv_at hl 0 rfl) ?_
            refine xg_r hc hw 7 0 13 rfl rfl rfl rfl (by decide) (h7) ((hm 43 (by decide) (by decide)).2) mw_700 dX7_button_92 ?_
            refine lv_iload_n hx hb dX7_button_95 rfl (lv_at hl 1 rfl) ?_
            refine xa_ld hc hw 43 0 (x_c a) rfl ((hm 43 (by decide) (by decide)).1) ((x_ix hP.1 hP.2 hB (by omega)).1) (Nat.lt_of_lt_of_le (x_ix hP.1 hP.2 hB (by omega)).2 hB0) dX7_button_96 ?_
            exact xr_i hc hlocks hr rfl hw (⟨by rw [hσ_30, if_pos hP], fun _ _ => by rw [hσ_30, hsw, x_cn (by decide)]; simp [x_up]⟩) (Nat.le_of_ble_eq_true rfl) (Nat.le_of_ble_eq_true rfl) dX7_button_97
          · refine lv_tableIn (tgt := 98) (off := 59) hx hb dX7_button_39 (x_swl hsw) (x_swh hsw (by decide)) (by rw [x_swn hsw (by decide)]; rfl) (by decide) ?_
            refine lv_aload_n hx hb dX7_button_98 rfl (lv_at hl 0 rfl) ?_
            refine xg_r hc hw 7 0 14 rfl rfl rfl rfl (by decide) (h7) ((hm 44 (by decide) (by decide)).2) mw_701 dX7_button_99 ?_
            refine lv_iload_n hx hb dX7_button_102 rfl (lv_at hl 1 rfl) ?_
            refine xa_ld hc hw 44 0 (x_c a) rfl ((hm 44 (by decide) (by decide)).1) ((x_ix hP.1 hP.2 hB (by omega)).1) (Nat.lt_of_lt_of_le (x_ix hP.1 hP.2 hB (by omega)).2 hB0) dX7_button_103 ?_
            exact xr_i hc hlocks hr rfl hw (⟨by rw [hσ_30, if_pos hP], fun _ _ => by rw [hσ_30, hsw, x_cn (by decide)]; simp [x_up]⟩) (Nat.le_of_ble_eq_true rfl) (Nat.le_of_ble_eq_true rfl) dX7_button_104
          · refine lv_tableIn (tgt := 105) (off := 66) hx hb dX7_button_39 (x_swl hsw) (x_swh hsw (by decide)) (by rw [x_swn hsw (by decide)]; rfl) (by decide) ?_
            refine lv_aload_n hx hb dX7_button_105 rfl (lv_at hl 0 rfl) ?_
            refine xg_r hc hw 7 0 15 rfl rfl rfl rfl (by decide) (h7) ((hm 45 (by decide) (by decide)).2) mw_702 dX7_button_106 ?_
            refine lv_iload_n hx hb dX7_button_109 rfl (lv_at hl 1 rfl) ?_
            refine xa_ld hc hw 45 0 (x_c a) rfl ((hm 45 (by decide) (by decide)).1) ((x_ix hP.1 hP.2 hB (by omega)).1) (Nat.lt_of_lt_of_le (x_ix hP.1 hP.2 hB (by omega)).2 hB0) dX7_button_110 ?_
            exact xr_i hc hlocks hr rfl hw (⟨by rw [hσ_30, if_pos hP], fun _ _ => by rw [hσ_30, hsw, x_cn (by decide)]; simp [x_up]⟩) (Nat.le_of_ble_eq_true rfl) (Nat.le_of_ble_eq_true rfl) dX7_button_111
          · refine lv_tableIn (tgt := 112) (off := 73) hx hb dX7_button_39 (x_swl hsw) (x_swh hsw (by decide)) (by rw [x_swn hsw (by decide)]; rfl) (by decide) ?_
            refine lv_aload_n hx hb dX7_button_112 rfl (lv_at hl 0 rfl) ?_
            refine xg_r hc hw 7 0 16 rfl rfl rfl rfl (by decide) (h7) ((hm 46 (by decide) (by decide)).2) mw_703 dX7_button_113 ?_
            refine lv_iload_n hx hb dX7_button_116 rfl (lv_at hl 1 rfl) ?_
            refine xa_ld hc hw 46 0 (x_c a) rfl ((hm 46 (by decide) (by decide)).1) ((x_ix hP.1 hP.2 hB (by omega)).1) (Nat.lt_of_lt_of_le (x_ix hP.1 hP.2 hB (by omega)).2 hB0) dX7_button_117 ?_
            exact xr_i hc hlocks hr rfl hw (⟨by rw [hσ_30, if_pos hP], fun _ _ => by rw [hσ_30, hsw, x_cn (by decide)]; simp [x_up]⟩) (Nat.le_of_ble_eq_true rfl) (Nat.le_of_ble_eq_true rfl) dX7_button_118
          · refine lv_tableIn (tgt := 119) (off := 80) hx hb dX7_button_39 (x_swl hsw) (x_swh hsw (by decide)) (by rw [x_swn hsw (by decide)]; rfl) (by decide) ?_
            refine lv_aload_n hx hb dX7_button_119 rfl (lv_at hl 0 rfl) ?_
            refine xg_r hc hw 7 0 17 rfl rfl rfl rfl (by decide) (h7) ((hm 47 (by decide) (by decide)).2) mw_704 dX7_button_120 ?_
            refine lv_iload_n hx hb dX7_button_123 rfl (lv_at hl 1 rfl) ?_
            refine xa_ld hc hw 47 0 (x_c a) rfl ((hm 47 (by decide) (by decide)).1) ((x_ix hP.1 hP.2 hB (by omega)).1) (Nat.lt_of_lt_of_le (x_ix hP.1 hP.2 hB (by omega)).2 hB0) dX7_button_124 ?_
            exact xr_i hc hlocks hr rfl hw (⟨by rw [hσ_30, if_pos hP], fun _ _ => by rw [hσ_30, hsw, x_cn (by decide)]; simp [x_up]⟩) (Nat.le_of_ble_eq_true rfl) (Nat.le_of_ble_eq_true rfl) dX7_button_125
          · refine lv_tableIn (tgt := 126) (off := 87) hx hb dX7_button_39 (x_swl hsw) (x_swh hsw (by decide)) (by rw [x_swn hsw (by decide)]; rfl) (by decide) ?_
            refine lv_aload_n hx hb dX7_button_126 rfl (lv_at hl 0 rfl) ?_
            refine xg_r hc hw 7 0 18 rfl rfl rfl rfl (by decide) (h7) ((hm 48 (by decide) (by decide)).2) mw_705 dX7_button_127 ?_
            refine lv_iload_n hx hb dX7_button_130 rfl (lv_at hl 1 rfl) ?_
            refine xa_ld hc hw 48 0 (x_c a) rfl ((hm 48 (by decide) (by decide)).1) ((x_ix hP.1 hP.2 hB (by omega)).1) (Nat.lt_of_lt_of_le (x_ix hP.1 hP.2 hB (by omega)).2 hB0) dX7_button_131 ?_
            exact xr_i hc hlocks hr rfl hw (⟨by rw [hσ_30, if_pos hP], fun _ _ => by rw [hσ_30, hsw, x_cn (by decide)]; simp [x_up]⟩) (Nat.le_of_ble_eq_true rfl) (Nat.le_of_ble_eq_true rfl) dX7_button_132
          · refine lv_tableIn (tgt := 133) (off := 94) hx hb dX7_button_39 (x_swl hsw) (x_swh hsw (by decide)) (by rw [x_swn hsw (by decide)]; rfl) (by decide) ?_
            refine lv_aload_n hx hb dX7_button_133 rfl (lv_at hl 0 rfl) ?_
            refine xg_r hc hw 7 0 19 rfl rfl rfl rfl (by decide) (h7) ((hm 49 (by decide) (by decide)).2) mw_706 dX7_button_134 ?_
            refine lv_iload_n hx hb dX7_button_137 rfl (lv_at hl 1 rfl) ?_
            refine xa_ld hc hw 49 0 (x_c a) rfl ((hm 49 (by decide) (by decide)).1) ((x_ix hP.1 hP.2 hB (by omega)).1) (Nat.lt_of_lt_of_le (x_ix hP.1 hP.2 hB (by omega)).2 hB0) dX7_button_138 ?_
            exact xr_i hc hlocks hr rfl hw (⟨by rw [hσ_30, if_pos hP], fun _ _ => by rw [hσ_30, hsw, x_cn (by decide)]; simp [x_up]⟩) (Nat.le_of_ble_eq_true rfl) (Nat.le_of_ble_eq_true rfl) dX7_button_139
      · refine lv_iconst (v := 0) hx hb dX7_button_36 (by decide) ?_
        exact xr_i hc hlocks hr rfl hw (⟨by rw [hσ_30, if_pos hP], fun _ h => absurd h (x_if0 hr_30 c_33)⟩) (Nat.le_of_ble_eq_true rfl) (Nat.le_of_ble_eq_true rfl) dX7_button_37
    refine lv_aload_n hx hb dX7_button_13 rfl (lv_at hl 0 rfl) ?_
    refine lv_iload_n hx hb dX7_button_14 rfl (lv_at hl 2 rfl) ?_
    refine lv_if_lt (tgt := 28) hx hb dX7_button_15 (by decide) (fun c_15 => ?_) (fun c_15 => ?_)
    · refine lv_iconst (v := 0) hx hb dX7_button_28 (by decide) ?_
      exact cut_29 _ (by simp_all [← Int32.not_le]) _ _ _ (lv_sub hl [0, 1, 2] rfl) hw
    · refine lv_iload_n hx hb dX7_button_18 rfl (lv_at hl 2 rfl) ?_
      refine lv_bipush (v := 8) hx hb dX7_button_19 (by decide) ?_
      refine lv_icmp_gt (tgt := 28) hx hb dX7_button_21 (by decide) (fun c_21 => ?_) (fun c_21 => ?_)
      · refine lv_iconst (v := 0) hx hb dX7_button_28 (by decide) ?_
        exact cut_29 _ (by simp_all [← Int32.not_le]) _ _ _ (lv_sub hl [0, 1, 2] rfl) hw
      · refine lv_iconst (v := 1) hx hb dX7_button_24 (by decide) ?_
        refine lv_goto (tgt := 29) hx hb dX7_button_25 (by decide) ?_
        exact cut_29 _ (by simp_all [← Int32.not_le]) _ _ _ (lv_sub hl [0, 1, 2] rfl) hw
/-- X7_stands -/
def q_X7_stands (σ : x_St) (a b : Int32) : Int32 → x_St → Prop := fun r σ' => σ' = x_up (if (0 ≤ a ∧ a ≤ 5) ∧ 1 ≤ b ∧ b ≤ 10000 then x_up σ 52 0 (x_c a) b else σ) 7 0 0 (if (0 ≤ a ∧ a ≤ 5) then (if 1 ≤ b ∧ b ≤ 10000 then 0 else 2) else 1) ∧ ((0 ≤ a ∧ a ≤ 5) → 1 ≤ b ∧ b ≤ 10000 → r = σ 52 0 (x_c a))
set_option maxHeartbeats 4000000 in
set_option maxRecDepth 100000 in
theorem c_X7_stands {l : Launch} {D : va_G} {cs : Nat → ClassId} {base : Nat} {ad : Nat → Nat → Nat} {n st : Nat → Nat} {σ : x_St} (a b : Int32) (h7 : 0 < n 7) (hm : ∀ k, 36 ≤ k → k < 70 → 0 < n k ∧ 0 < st (100 + k)) : x_Ci l yX7_stands cX7_stands 4 (some .int) 3 0 0 D cs base ad n st σ [.ref (ad 7 0), .int a, .int b] (q_X7_stands σ a b) (fun σ' => x_U D cs base ad n st σ') := by
  refine Met.ofW (cc := cX7_stands) (maxL := 4) (ret := some .int) (by decide) rfl ?_
  intro p e s m args below meth c s₁ B hml hv
  obtain ⟨rfl, hU⟩ := hv
  have hx := B.exec
  have hb := B.bytes
  have hr := B.returns
  have hts := atoms_spec (ws := Cond.code yX7_stands cX7_stands 4 (some .int) :: Tw) B.pre
  have hown : s.vm.findClass RX7 = some m.cls := findClass_of_methodNamed B.named
  have hlocks := B.notSynchronized
  have hc : CallFix p m c cX7_stands 4 s (([.ref (ad 7 0), .int a, .int b] : List Value).toArray) Tw RX7 := ⟨hx, hb, hml, hown, fun w hw => hts w (List.mem_cons_of_mem _ hw)⟩
  have hw := x_B.start hU
  have hl := lv_entry ([.ref (ad 7 0), .int a, .int b]) (n := 4) (Nat.le_of_ble_eq_true rfl)
  rw [lg_entry_eq]
  generalize (lg_sl ([.ref (ad 7 0), .int a, .int b]) ++ List.replicate (4 - (lg_sl ([.ref (ad 7 0), .int a, .int b])).length) Slot.unset).toArray = ls at hl ⊢
  have hl : lv_has ls 4 [(0, .ref (ad 7 0)), (1, .int a), (2, .int b)] := hl
  show W p l e (x_rm 3 0 0) s m ([.ref (ad 7 0), .int a, .int b] : List Value).toArray below meth c s.heap [] 0 0 (MQ below (va_Qi (q_X7_stands σ a b) (fun σ' => x_U D cs base ad n st σ') (x_A base)) ([.ref (ad 7 0), .int a, .int b] : List Value).toArray s 0 0 (x_A base)) (F0 m 0 ls [])
  refine lv_aload_n hx hb dX7_stands_0 rfl (lv_at hl 0 rfl) ?_
  refine lv_iload_n hx hb dX7_stands_1 rfl (lv_at hl 1 rfl) ?_
  refine xc_Vi hc hw 7 0 (c_X7_isMachine a h7 hm) rfl rfl (h7) mw_887 mw_884 mw_4 mw_886 mp_27 xd_X7_isMachine ⟨by decide, by decide⟩ (rfl) hl.1 (Nat.le_of_ble_eq_true rfl) dX7_stands_2 ⟨Nat.le_of_ble_eq_true rfl, Nat.le_of_ble_eq_true rfl⟩ (fun r_2 σ_2 H locs hq hw => ?_)
  have hq_2 := hq
  obtain ⟨hr_2, hσ_2⟩ := hq_2
  refine lv_if_eq (tgt := 33) hx hb dX7_stands_5 (by decide) (fun c_5 => ?_) (fun c_5 => ?_)
  · refine lv_iconst (v := 0) hx hb dX7_stands_33 (by decide) ?_
    exact xr_i hc hlocks hr rfl hw (⟨by rw [hσ_2, if_neg (x_if0 hr_2 c_5), if_neg (fun h => x_if0 hr_2 c_5 h.1), if_neg (x_if0 hr_2 c_5)], fun h => absurd h (x_if0 hr_2 c_5)⟩) (Nat.le_of_ble_eq_true rfl) (Nat.le_of_ble_eq_true rfl) dX7_stands_34
  · have hP := x_if1 hr_2 c_5
    have cut_26 : ∀ (f : Int32), (f = if 1 ≤ b ∧ b ≤ 10000 then 1 else 0) → ∀ (H : Heap) (locs : List Loc) (ls : Array Slot), lv_has ls 4 [(0, .ref (ad 7 0)), (1, .int a), (2, .int b)] → x_B D cs base ad n st σ_2 s H locs → W p l e (x_rm 3 0 0) s m ([.ref (ad 7 0), .int a, .int b] : List Value).toArray below meth c H locs 0 0 (MQ below (va_Qi (q_X7_stands σ a b) (fun σ' => x_U D cs base ad n st σ') (x_A base)) ([.ref (ad 7 0), .int a, .int b] : List Value).toArray s 0 0 (x_A base)) (F0 m 26 ls [.int f, .ref (ad 7 0)]) := by
      intro f hf H locs ls hl hw
      refine lv_iconst (v := 2) hx hb dX7_stands_26 (by decide) ?_
      refine xc_Vi hc hw 7 0 (c_X7_right f 2 h7 hm) rfl rfl (h7) mw_834 mw_831 mw_4 mw_833 mp_20 xd_X7_right ⟨by decide, by decide⟩ (rfl) hl.1 (Nat.le_of_ble_eq_true rfl) dX7_stands_27 ⟨Nat.le_of_ble_eq_true rfl, Nat.le_of_ble_eq_true rfl⟩ (fun r_27 σ_27 H locs hq hw => ?_)
      have hq_27 := hq
      obtain ⟨hr_27, hσ_27⟩ := x_right hq_27 (x_th hσ_2 hP) hf (by decide)
      rw [hσ_2, if_pos hP, x_up_up] at hσ_27
      refine lv_if_ne (tgt := 35) hx hb dX7_stands_30 (by decide) (fun c_30 => ?_) (fun c_30 => ?_)
      · have hQ := x_if1 hr_27 c_30
        refine lv_aload_n hx hb dX7_stands_35 rfl (lv_at hl 0 rfl) ?_
        refine xg_r hc hw 7 0 22 rfl rfl rfl rfl (by decide) (h7) ((hm 52 (by decide) (by decide)).2) mw_709 dX7_stands_36 ?_
        refine lv_iload_n hx hb dX7_stands_39 rfl (lv_at hl 1 rfl) ?_
        refine xa_ld hc hw 52 0 (x_c a) rfl ((hm 52 (by decide) (by decide)).1) ((x_ixle hP.1 hP.2 (N := 5) rfl (by decide)).1) (Nat.lt_succ_of_le (x_ixle hP.1 hP.2 (N := 5) rfl (by decide)).2) dX7_stands_40 ?_
        refine lv_topi (fun x3_41 ex3_41 => ?_)
        refine lv_istore_n (lv' := [(3, .int x3_41), (0, .ref (ad 7 0)), (1, .int a), (2, .int b)]) hx hb dX7_stands_41 rfl hl (by decide) rfl (fun ls hl => ?_)
        refine lv_aload_n hx hb dX7_stands_42 rfl (lv_at hl 1 rfl) ?_
        refine xg_r hc hw 7 0 22 rfl rfl rfl rfl (by decide) (h7) ((hm 52 (by decide) (by decide)).2) mw_709 dX7_stands_43 ?_
        refine lv_iload_n hx hb dX7_stands_46 rfl (lv_at hl 2 rfl) ?_
        refine lv_iload_n hx hb dX7_stands_47 rfl (lv_at hl 3 rfl) ?_
        refine xa_st hc hw 52 0 (x_c a) rfl ((hm 52 (by decide) (by decide)).1) ((x_ixle hP.1 hP.2 (N := 5) rfl (by decide)).1) (Nat.lt_succ_of_le (x_ixle hP.1 hP.2 (N := 5) rfl (by decide)).2) dX7_stands_48 (fun H locs hw => ?_)
        refine lv_iload_n hx hb dX7_stands_49 rfl (lv_at hl 0 rfl) ?_
        exact xr_i hc hlocks hr rfl hw (⟨by rw [hσ_27, if_pos hQ, if_pos ⟨hP, hQ⟩, if_pos hP]; exact x_up_swap (by simp), fun _ _ => by rw [ex3_41, hσ_27]; simp [x_up]⟩) (Nat.le_of_ble_eq_true rfl) (Nat.le_of_ble_eq_true rfl) dX7_stands_50
      · refine lv_iconst (v := 0) hx hb dX7_stands_33 (by decide) ?_
        exact xr_i hc hlocks hr rfl hw (⟨by rw [hσ_27, if_pos hP, if_neg (show ¬ ((0 ≤ a ∧ a ≤ 5) ∧ 1 ≤ b ∧ b ≤ 10000) from fun h => x_if0 hr_27 c_30 h.2)], fun _ h => absurd h (x_if0 hr_27 c_30)⟩) (Nat.le_of_ble_eq_true rfl) (Nat.le_of_ble_eq_true rfl) dX7_stands_34
    refine lv_aload_n hx hb dX7_stands_8 rfl (lv_at hl 0 rfl) ?_
    refine lv_iload_n hx hb dX7_stands_9 rfl (lv_at hl 2 rfl) ?_
    refine lv_iconst (v := 1) hx hb dX7_stands_10 (by decide) ?_
    refine lv_icmp_lt (tgt := 25) hx hb dX7_stands_11 (by decide) (fun c_11 => ?_) (fun c_11 => ?_)
    · refine lv_iconst (v := 0) hx hb dX7_stands_25 (by decide) ?_
      exact cut_26 _ (by simp_all [← Int32.not_le]) _ _ _ (lv_sub hl [0, 1, 2] rfl) hw
    · refine lv_iload_n hx hb dX7_stands_14 rfl (lv_at hl 2 rfl) ?_
      refine lv_sipush (v := 10000) hx hb dX7_stands_15 (by decide) ?_
      refine lv_icmp_gt (tgt := 25) hx hb dX7_stands_18 (by decide) (fun c_18 => ?_) (fun c_18 => ?_)
      · refine lv_iconst (v := 0) hx hb dX7_stands_25 (by decide) ?_
        exact cut_26 _ (by simp_all [← Int32.not_le]) _ _ _ (lv_sub hl [0, 1, 2] rfl) hw
      · refine lv_iconst (v := 1) hx hb dX7_stands_21 (by decide) ?_
        refine lv_goto (tgt := 26) hx hb dX7_stands_22 (by decide) ?_
        exact cut_26 _ (by simp_all [← Int32.not_le]) _ _ _ (lv_sub hl [0, 1, 2] rfl) hw
/-- X7_grind -/
def q_X7_grind (σ : x_St) (a : Int32) : Int32 → x_St → Prop := fun r σ' => σ' = x_up (if (0 ≤ a ∧ a ≤ 5) then x_up σ 51 0 (x_c a) 0 else σ) 7 0 0 (if (0 ≤ a ∧ a ≤ 5) then 0 else 1) ∧ ((0 ≤ a ∧ a ≤ 5) → r = σ 51 0 (x_c a))
set_option maxHeartbeats 4000000 in
set_option maxRecDepth 100000 in
theorem c_X7_grind {l : Launch} {D : va_G} {cs : Nat → ClassId} {base : Nat} {ad : Nat → Nat → Nat} {n st : Nat → Nat} {σ : x_St} (a : Int32) (h7 : 0 < n 7) (hm : ∀ k, 36 ≤ k → k < 70 → 0 < n k ∧ 0 < st (100 + k)) : x_Ci l yX7_grind cX7_grind 3 (some .int) 3 0 0 D cs base ad n st σ [.ref (ad 7 0), .int a] (q_X7_grind σ a) (fun σ' => x_U D cs base ad n st σ') := by
  refine Met.ofW (cc := cX7_grind) (maxL := 3) (ret := some .int) (by decide) rfl ?_
  intro p e s m args below meth c s₁ B hml hv
  obtain ⟨rfl, hU⟩ := hv
  have hx := B.exec
  have hb := B.bytes
  have hr := B.returns
  have hts := atoms_spec (ws := Cond.code yX7_grind cX7_grind 3 (some .int) :: Tw) B.pre
  have hown : s.vm.findClass RX7 = some m.cls := findClass_of_methodNamed B.named
  have hlocks := B.notSynchronized
  have hc : CallFix p m c cX7_grind 3 s (([.ref (ad 7 0), .int a] : List Value).toArray) Tw RX7 := ⟨hx, hb, hml, hown, fun w hw => hts w (List.mem_cons_of_mem _ hw)⟩
  have hw := x_B.start hU
  have hl := lv_entry ([.ref (ad 7 0), .int a]) (n := 3) (Nat.le_of_ble_eq_true rfl)
  rw [lg_entry_eq]
  generalize (lg_sl ([.ref (ad 7 0), .int a]) ++ List.replicate (3 - (lg_sl ([.ref (ad 7 0), .int a])).length) Slot.unset).toArray = ls at hl ⊢
  have hl : lv_has ls 3 [(0, .ref (ad 7 0)), (1, .int a)] := hl
  show W p l e (x_rm 3 0 0) s m ([.ref (ad 7 0), .int a] : List Value).toArray below meth c s.heap [] 0 0 (MQ below (va_Qi (q_X7_grind σ a) (fun σ' => x_U D cs base ad n st σ') (x_A base)) ([.ref (ad 7 0), .int a] : List Value).toArray s 0 0 (x_A base)) (F0 m 0 ls [])
  refine lv_aload_n hx hb dX7_grind_0 rfl (lv_at hl 0 rfl) ?_
  refine lv_iload_n hx hb dX7_grind_1 rfl (lv_at hl 1 rfl) ?_
  refine xc_Vi hc hw 7 0 (c_X7_isMachine a h7 hm) rfl rfl (h7) mw_887 mw_884 mw_4 mw_886 mp_27 xd_X7_isMachine ⟨by decide, by decide⟩ (rfl) hl.1 (Nat.le_of_ble_eq_true rfl) dX7_grind_2 ⟨Nat.le_of_ble_eq_true rfl, Nat.le_of_ble_eq_true rfl⟩ (fun r_2 σ_2 H locs hq hw => ?_)
  have hq_2 := hq
  obtain ⟨hr_2, hσ_2⟩ := hq_2
  refine lv_if_ne (tgt := 10) hx hb dX7_grind_5 (by decide) (fun c_5 => ?_) (fun c_5 => ?_)
  · have hP := x_if1 hr_2 c_5
    refine lv_aload_n hx hb dX7_grind_10 rfl (lv_at hl 0 rfl) ?_
    refine xg_r hc hw 7 0 21 rfl rfl rfl rfl (by decide) (h7) ((hm 51 (by decide) (by decide)).2) mw_708 dX7_grind_11 ?_
    refine lv_iload_n hx hb dX7_grind_14 rfl (lv_at hl 1 rfl) ?_
    refine xa_ld hc hw 51 0 (x_c a) rfl ((hm 51 (by decide) (by decide)).1) ((x_ixle hP.1 hP.2 (N := 5) rfl (by decide)).1) (Nat.lt_succ_of_le (x_ixle hP.1 hP.2 (N := 5) rfl (by decide)).2) dX7_grind_15 ?_
    refine lv_topi (fun x2_16 ex2_16 => ?_)
    refine lv_istore_n (lv' := [(2, .int x2_16), (0, .ref (ad 7 0)), (1, .int a)]) hx hb dX7_grind_16 rfl hl (by decide) rfl (fun ls hl => ?_)
    refine lv_aload_n hx hb dX7_grind_17 rfl (lv_at hl 1 rfl) ?_
    refine xg_r hc hw 7 0 21 rfl rfl rfl rfl (by decide) (h7) ((hm 51 (by decide) (by decide)).2) mw_708 dX7_grind_18 ?_
    refine lv_iload_n hx hb dX7_grind_21 rfl (lv_at hl 2 rfl) ?_
    refine lv_iconst (v := 0) hx hb dX7_grind_22 (by decide) ?_
    refine xa_st hc hw 51 0 (x_c a) rfl ((hm 51 (by decide) (by decide)).1) ((x_ixle hP.1 hP.2 (N := 5) rfl (by decide)).1) (Nat.lt_succ_of_le (x_ixle hP.1 hP.2 (N := 5) rfl (by decide)).2) dX7_grind_23 (fun H locs hw => ?_)
    refine lv_iload_n hx hb dX7_grind_24 rfl (lv_at hl 0 rfl) ?_
    exact xr_i hc hlocks hr rfl hw (⟨by rw [hσ_2, if_pos hP, if_pos hP]; exact x_up_swap (by simp), fun _ => by rw [ex2_16, hσ_2]; simp [x_up]⟩) (Nat.le_of_ble_eq_true rfl) (Nat.le_of_ble_eq_true rfl) dX7_grind_25
  · refine lv_iconst (v := 0) hx hb dX7_grind_8 (by decide) ?_
    exact xr_i hc hlocks hr rfl hw (⟨by rw [hσ_2, if_neg (x_if0 hr_2 c_5), if_neg (x_if0 hr_2 c_5)], fun h => absurd h (x_if0 hr_2 (c_5))⟩) (Nat.le_of_ble_eq_true rfl) (Nat.le_of_ble_eq_true rfl) dX7_grind_9
/-- X7_machine -/
def q_X7_machine (σ : x_St) (a b : Int32) : Int32 → x_St → Prop := fun r σ' => σ' = x_up σ 7 0 0 (if (0 ≤ a ∧ a ≤ 5) then (if 0 ≤ b ∧ b ≤ 3 then 0 else 1) else 1) ∧ ((0 ≤ a ∧ a ≤ 5) → 0 ≤ b ∧ b ≤ 3 → r = if b = 0 then σ 51 0 (x_c a) else if b = 1 then σ 52 0 (x_c a) else if b = 2 then σ 53 0 (x_c a) else σ 54 0 (x_c a))
set_option maxHeartbeats 4000000 in
set_option maxRecDepth 100000 in
theorem c_X7_machine {l : Launch} {D : va_G} {cs : Nat → ClassId} {base : Nat} {ad : Nat → Nat → Nat} {n st : Nat → Nat} {σ : x_St} (a b : Int32) (h7 : 0 < n 7) (hm : ∀ k, 36 ≤ k → k < 70 → 0 < n k ∧ 0 < st (100 + k)) : x_Ci l yX7_machine cX7_machine 3 (some .int) 3 0 0 D cs base ad n st σ [.ref (ad 7 0), .int a, .int b] (q_X7_machine σ a b) (fun σ' => x_U D cs base ad n st σ') := by
  refine Met.ofW (cc := cX7_machine) (maxL := 3) (ret := some .int) (by decide) rfl ?_
  intro p e s m args below meth c s₁ B hml hv
  obtain ⟨rfl, hU⟩ := hv
  have hx := B.exec
  have hb := B.bytes
  have hr := B.returns
  have hts := atoms_spec (ws := Cond.code yX7_machine cX7_machine 3 (some .int) :: Tw) B.pre
  have hown : s.vm.findClass RX7 = some m.cls := findClass_of_methodNamed B.named
  have hlocks := B.notSynchronized
  have hc : CallFix p m c cX7_machine 3 s (([.ref (ad 7 0), .int a, .int b] : List Value).toArray) Tw RX7 := ⟨hx, hb, hml, hown, fun w hw => hts w (List.mem_cons_of_mem _ hw)⟩
  have hw := x_B.start hU
  have hl := lv_entry ([.ref (ad 7 0), .int a, .int b]) (n := 3) (Nat.le_of_ble_eq_true rfl)
  rw [lg_entry_eq]
  generalize (lg_sl ([.ref (ad 7 0), .int a, .int b]) ++ List.replicate (3 - (lg_sl ([.ref (ad 7 0), .int a, .int b])).length) Slot.unset).toArray = ls at hl ⊢
  have hl : lv_has ls 3 [(0, .ref (ad 7 0)), (1, .int a), (2, .int b)] := hl
  show W p l e (x_rm 3 0 0) s m ([.ref (ad 7 0), .int a, .int b] : List Value).toArray below meth c s.heap [] 0 0 (MQ below (va_Qi (q_X7_machine σ a b) (fun σ' => x_U D cs base ad n st σ') (x_A base)) ([.ref (ad 7 0), .int a, .int b] : List Value).toArray s 0 0 (x_A base)) (F0 m 0 ls [])
  refine lv_aload_n hx hb dX7_machine_0 rfl (lv_at hl 0 rfl) ?_
  refine lv_iload_n hx hb dX7_machine_1 rfl (lv_at hl 1 rfl) ?_
  refine xc_Vi hc hw 7 0 (c_X7_isMachine a h7 hm) rfl rfl (h7) mw_887 mw_884 mw_4 mw_886 mp_27 xd_X7_isMachine ⟨by decide, by decide⟩ (rfl) hl.1 (Nat.le_of_ble_eq_true rfl) dX7_machine_2 ⟨Nat.le_of_ble_eq_true rfl, Nat.le_of_ble_eq_true rfl⟩ (fun r_2 σ_2 H locs hq hw => ?_)
  have hq_2 := hq
  obtain ⟨hr_2, hσ_2⟩ := hq_2
  refine lv_if_eq (tgt := 30) hx hb dX7_machine_5 (by decide) (fun c_5 => ?_) (fun c_5 => ?_)
  · refine lv_iconst (v := 0) hx hb dX7_machine_30 (by decide) ?_
    exact xr_i hc hlocks hr rfl hw (⟨by rw [hσ_2, if_neg (x_if0 hr_2 c_5), x_code1 (x_if0 hr_2 c_5)], fun h => absurd h (x_if0 hr_2 c_5)⟩) (Nat.le_of_ble_eq_true rfl) (Nat.le_of_ble_eq_true rfl) dX7_machine_31
  · have hP := x_if1 hr_2 c_5
    have cut_23 : ∀ (f : Int32), (f = if 0 ≤ b ∧ b ≤ 3 then 1 else 0) → ∀ (H : Heap) (locs : List Loc) (ls : Array Slot), lv_has ls 3 [(0, .ref (ad 7 0)), (1, .int a), (2, .int b)] → x_B D cs base ad n st σ_2 s H locs → W p l e (x_rm 3 0 0) s m ([.ref (ad 7 0), .int a, .int b] : List Value).toArray below meth c H locs 0 0 (MQ below (va_Qi (q_X7_machine σ a b) (fun σ' => x_U D cs base ad n st σ') (x_A base)) ([.ref (ad 7 0), .int a, .int b] : List Value).toArray s 0 0 (x_A base)) (F0 m 23 ls [.int f, .ref (ad 7 0)]) := by
      intro f hf H locs ls hl hw
      refine lv_iconst (v := 1) hx hb dX7_machine_23 (by decide) ?_
      refine xc_Vi hc hw 7 0 (c_X7_right f 1 h7 hm) rfl rfl (h7) mw_834 mw_831 mw_4 mw_833 mp_20 xd_X7_right ⟨by decide, by decide⟩ (rfl) hl.1 (Nat.le_of_ble_eq_true rfl) dX7_machine_24 ⟨Nat.le_of_ble_eq_true rfl, Nat.le_of_ble_eq_true rfl⟩ (fun r_24 σ_24 H locs hq hw => ?_)
      have hq_24 := hq
      obtain ⟨hr_24, hσ_24⟩ := x_right hq_24 (x_th hσ_2 hP) hf (by decide)
      rw [hσ_2, if_pos hP, x_up_up] at hσ_24
      refine lv_if_ne (tgt := 32) hx hb dX7_machine_27 (by decide) (fun c_27 => ?_) (fun c_27 => ?_)
      · refine lv_iload_n hx hb dX7_machine_32 rfl (lv_at hl 2 rfl) ?_
        refine lv_if_ne (tgt := 45) hx hb dX7_machine_33 (by decide) (fun c_33 => ?_) (fun c_33 => ?_)
        · refine lv_iload_n hx hb dX7_machine_45 rfl (lv_at hl 2 rfl) ?_
          refine lv_iconst (v := 1) hx hb dX7_machine_46 (by decide) ?_
          refine lv_icmp_ne (tgt := 59) hx hb dX7_machine_47 (by decide) (fun c_47 => ?_) (fun c_47 => ?_)
          · refine lv_iload_n hx hb dX7_machine_59 rfl (lv_at hl 2 rfl) ?_
            refine lv_iconst (v := 2) hx hb dX7_machine_60 (by decide) ?_
            refine lv_icmp_ne (tgt := 73) hx hb dX7_machine_61 (by decide) (fun c_61 => ?_) (fun c_61 => ?_)
            · refine lv_aload_n hx hb dX7_machine_73 rfl (lv_at hl 0 rfl) ?_
              refine xg_r hc hw 7 0 24 rfl rfl rfl rfl (by decide) (h7) ((hm 54 (by decide) (by decide)).2) mw_711 dX7_machine_74 ?_
              refine lv_iload_n hx hb dX7_machine_77 rfl (lv_at hl 1 rfl) ?_
              refine xa_ld hc hw 54 0 (x_c a) rfl ((hm 54 (by decide) (by decide)).1) ((x_ixle hP.1 hP.2 (N := 5) rfl (by decide)).1) (Nat.lt_succ_of_le (x_ixle hP.1 hP.2 (N := 5) rfl (by decide)).2) dX7_machine_78 ?_
              exact xr_i hc hlocks hr rfl hw (⟨by rw [hσ_24, if_pos hP], fun _ _ => by simp_all [x_up]⟩) (Nat.le_of_ble_eq_true rfl) (Nat.le_of_ble_eq_true rfl) dX7_machine_79
            · refine lv_aload_n hx hb dX7_machine_64 rfl (lv_at hl 0 rfl) ?_
              refine xg_r hc hw 7 0 23 rfl rfl rfl rfl (by decide) (h7) ((hm 53 (by decide) (by decide)).2) mw_710 dX7_machine_65 ?_
              refine lv_iload_n hx hb dX7_machine_68 rfl (lv_at hl 1 rfl) ?_
              refine xa_ld hc hw 53 0 (x_c a) rfl ((hm 53 (by decide) (by decide)).1) ((x_ixle hP.1 hP.2 (N := 5) rfl (by decide)).1) (Nat.lt_succ_of_le (x_ixle hP.1 hP.2 (N := 5) rfl (by decide)).2) dX7_machine_69 ?_
              refine lv_goto (tgt := 79) hx hb dX7_machine_70 (by decide) ?_
              exact xr_i hc hlocks hr rfl hw (⟨by rw [hσ_24, if_pos hP], fun _ _ => by simp_all [x_up]⟩) (Nat.le_of_ble_eq_true rfl) (Nat.le_of_ble_eq_true rfl) dX7_machine_79
          · refine lv_aload_n hx hb dX7_machine_50 rfl (lv_at hl 0 rfl) ?_
            refine xg_r hc hw 7 0 22 rfl rfl rfl rfl (by decide) (h7) ((hm 52 (by decide) (by decide)).2) mw_709 dX7_machine_51 ?_
            refine lv_iload_n hx hb dX7_machine_54 rfl (lv_at hl 1 rfl) ?_
            refine xa_ld hc hw 52 0 (x_c a) rfl ((hm 52 (by decide) (by decide)).1) ((x_ixle hP.1 hP.2 (N := 5) rfl (by decide)).1) (Nat.lt_succ_of_le (x_ixle hP.1 hP.2 (N := 5) rfl (by decide)).2) dX7_machine_55 ?_
            refine lv_goto (tgt := 79) hx hb dX7_machine_56 (by decide) ?_
            exact xr_i hc hlocks hr rfl hw (⟨by rw [hσ_24, if_pos hP], fun _ _ => by simp_all [x_up]⟩) (Nat.le_of_ble_eq_true rfl) (Nat.le_of_ble_eq_true rfl) dX7_machine_79
        · refine lv_aload_n hx hb dX7_machine_36 rfl (lv_at hl 0 rfl) ?_
          refine xg_r hc hw 7 0 21 rfl rfl rfl rfl (by decide) (h7) ((hm 51 (by decide) (by decide)).2) mw_708 dX7_machine_37 ?_
          refine lv_iload_n hx hb dX7_machine_40 rfl (lv_at hl 1 rfl) ?_
          refine xa_ld hc hw 51 0 (x_c a) rfl ((hm 51 (by decide) (by decide)).1) ((x_ixle hP.1 hP.2 (N := 5) rfl (by decide)).1) (Nat.lt_succ_of_le (x_ixle hP.1 hP.2 (N := 5) rfl (by decide)).2) dX7_machine_41 ?_
          refine lv_goto (tgt := 79) hx hb dX7_machine_42 (by decide) ?_
          exact xr_i hc hlocks hr rfl hw (⟨by rw [hσ_24, if_pos hP], fun _ _ => by simp_all [x_up]⟩) (Nat.le_of_ble_eq_true rfl) (Nat.le_of_ble_eq_true rfl) dX7_machine_79
      · refine lv_iconst (v := 0) hx hb dX7_machine_30 (by decide) ?_
        exact xr_i hc hlocks hr rfl hw (⟨by rw [hσ_24, if_pos hP], fun _ h => absurd h (x_if0 hr_24 c_27)⟩) (Nat.le_of_ble_eq_true rfl) (Nat.le_of_ble_eq_true rfl) dX7_machine_31
    refine lv_aload_n hx hb dX7_machine_8 rfl (lv_at hl 0 rfl) ?_
    refine lv_iload_n hx hb dX7_machine_9 rfl (lv_at hl 2 rfl) ?_
    refine lv_if_lt (tgt := 22) hx hb dX7_machine_10 (by decide) (fun c_10 => ?_) (fun c_10 => ?_)
    · refine lv_iconst (v := 0) hx hb dX7_machine_22 (by decide) ?_
      exact cut_23 _ (by simp_all [← Int32.not_le]) _ _ _ (lv_sub hl [0, 1, 2] rfl) hw
    · refine lv_iload_n hx hb dX7_machine_13 rfl (lv_at hl 2 rfl) ?_
      refine lv_iconst (v := 3) hx hb dX7_machine_14 (by decide) ?_
      refine lv_icmp_gt (tgt := 22) hx hb dX7_machine_15 (by decide) (fun c_15 => ?_) (fun c_15 => ?_)
      · refine lv_iconst (v := 0) hx hb dX7_machine_22 (by decide) ?_
        exact cut_23 _ (by simp_all [← Int32.not_le]) _ _ _ (lv_sub hl [0, 1, 2] rfl) hw
      · refine lv_iconst (v := 1) hx hb dX7_machine_18 (by decide) ?_
        refine lv_goto (tgt := 23) hx hb dX7_machine_19 (by decide) ?_
        exact cut_23 _ (by simp_all [← Int32.not_le]) _ _ _ (lv_sub hl [0, 1, 2] rfl) hw
/-- X7_onCard -/
def q_X7_onCard (σ : x_St) (a b : Int32) : Int32 → x_St → Prop := fun r σ' => σ' = x_up σ 7 0 0 (if (0 ≤ a ∧ a < σ 7 0 3) then (if 0 ≤ b ∧ b ≤ 11 then 0 else 1) else 1) ∧ ((0 ≤ a ∧ a < σ 7 0 3) → 0 ≤ b ∧ b ≤ 11 → r = σ 59 0 (12 * x_c a + x_c b))
set_option maxHeartbeats 4000000 in
set_option maxRecDepth 100000 in
theorem c_X7_onCard {l : Launch} {D : va_G} {cs : Nat → ClassId} {base : Nat} {ad : Nat → Nat → Nat} {n st : Nat → Nat} {σ : x_St} (a b : Int32) (nC : Nat) (hC : σ 7 0 3 = nI nC) (hC0 : nC ≤ 30) (h7 : 0 < n 7) (hm : ∀ k, 36 ≤ k → k < 70 → 0 < n k ∧ 0 < st (100 + k)) : x_Ci l yX7_onCard cX7_onCard 3 (some .int) 3 0 0 D cs base ad n st σ [.ref (ad 7 0), .int a, .int b] (q_X7_onCard σ a b) (fun σ' => x_U D cs base ad n st σ') := by
  refine Met.ofW (cc := cX7_onCard) (maxL := 3) (ret := some .int) (by decide) rfl ?_
  intro p e s m args below meth c s₁ B hml hv
  obtain ⟨rfl, hU⟩ := hv
  have hx := B.exec
  have hb := B.bytes
  have hr := B.returns
  have hts := atoms_spec (ws := Cond.code yX7_onCard cX7_onCard 3 (some .int) :: Tw) B.pre
  have hown : s.vm.findClass RX7 = some m.cls := findClass_of_methodNamed B.named
  have hlocks := B.notSynchronized
  have hc : CallFix p m c cX7_onCard 3 s (([.ref (ad 7 0), .int a, .int b] : List Value).toArray) Tw RX7 := ⟨hx, hb, hml, hown, fun w hw => hts w (List.mem_cons_of_mem _ hw)⟩
  have hw := x_B.start hU
  have hl := lv_entry ([.ref (ad 7 0), .int a, .int b]) (n := 3) (Nat.le_of_ble_eq_true rfl)
  rw [lg_entry_eq]
  generalize (lg_sl ([.ref (ad 7 0), .int a, .int b]) ++ List.replicate (3 - (lg_sl ([.ref (ad 7 0), .int a, .int b])).length) Slot.unset).toArray = ls at hl ⊢
  have hl : lv_has ls 3 [(0, .ref (ad 7 0)), (1, .int a), (2, .int b)] := hl
  show W p l e (x_rm 3 0 0) s m ([.ref (ad 7 0), .int a, .int b] : List Value).toArray below meth c s.heap [] 0 0 (MQ below (va_Qi (q_X7_onCard σ a b) (fun σ' => x_U D cs base ad n st σ') (x_A base)) ([.ref (ad 7 0), .int a, .int b] : List Value).toArray s 0 0 (x_A base)) (F0 m 0 ls [])
  refine lv_aload_n hx hb dX7_onCard_0 rfl (lv_at hl 0 rfl) ?_
  refine lv_iload_n hx hb dX7_onCard_1 rfl (lv_at hl 1 rfl) ?_
  refine xc_Vi hc hw 7 0 (c_X7_isCard a h7 hm) rfl rfl (h7) mw_927 mw_924 mw_4 mw_926 mp_30 xd_X7_isCard ⟨by decide, by decide⟩ (rfl) hl.1 (Nat.le_of_ble_eq_true rfl) dX7_onCard_2 ⟨Nat.le_of_ble_eq_true rfl, Nat.le_of_ble_eq_true rfl⟩ (fun r_2 σ_2 H locs hq hw => ?_)
  have hq_2 := hq
  obtain ⟨hr_2, hσ_2⟩ := hq_2
  refine lv_if_eq (tgt := 45) hx hb dX7_onCard_5 (by decide) (fun c_5 => ?_) (fun c_5 => ?_)
  · refine lv_iconst (v := 0) hx hb dX7_onCard_45 (by decide) ?_
    exact xr_i hc hlocks hr rfl hw (⟨by rw [hσ_2, if_neg (x_if0 hr_2 c_5), x_code1 (x_if0 hr_2 c_5)], fun h => absurd h (x_if0 hr_2 c_5)⟩) (Nat.le_of_ble_eq_true rfl) (Nat.le_of_ble_eq_true rfl) dX7_onCard_46
  · have hP := x_if1 hr_2 c_5
    have cut_24 : ∀ (f : Int32), (f = if 0 ≤ b ∧ b ≤ 11 then 1 else 0) → ∀ (H : Heap) (locs : List Loc) (ls : Array Slot), lv_has ls 3 [(0, .ref (ad 7 0)), (1, .int a), (2, .int b)] → x_B D cs base ad n st σ_2 s H locs → W p l e (x_rm 3 0 0) s m ([.ref (ad 7 0), .int a, .int b] : List Value).toArray below meth c H locs 0 0 (MQ below (va_Qi (q_X7_onCard σ a b) (fun σ' => x_U D cs base ad n st σ') (x_A base)) ([.ref (ad 7 0), .int a, .int b] : List Value).toArray s 0 0 (x_A base)) (F0 m 24 ls [.int f, .ref (ad 7 0)]) := by
      intro f hf H locs ls hl hw
      refine lv_iconst (v := 1) hx hb dX7_onCard_24 (by decide) ?_
      refine xc_Vi hc hw 7 0 (c_X7_right f 1 h7 hm) rfl rfl (h7) mw_834 mw_831 mw_4 mw_833 mp_20 xd_X7_right ⟨by decide, by decide⟩ (rfl) hl.1 (Nat.le_of_ble_eq_true rfl) dX7_onCard_25 ⟨Nat.le_of_ble_eq_true rfl, Nat.le_of_ble_eq_true rfl⟩ (fun r_25 σ_25 H locs hq hw => ?_)
      have hq_25 := hq
      obtain ⟨hr_25, hσ_25⟩ := x_right hq_25 (x_th hσ_2 hP) hf (by decide)
      rw [hσ_2, if_pos hP, x_up_up] at hσ_25
      refine lv_if_eq (tgt := 45) hx hb dX7_onCard_28 (by decide) (fun c_28 => ?_) (fun c_28 => ?_)
      · refine lv_iconst (v := 0) hx hb dX7_onCard_45 (by decide) ?_
        exact xr_i hc hlocks hr rfl hw (⟨by rw [hσ_25, if_pos hP], fun _ h => absurd h (x_if0 hr_25 c_28)⟩) (Nat.le_of_ble_eq_true rfl) (Nat.le_of_ble_eq_true rfl) dX7_onCard_46
      · have hQ := x_if1 hr_25 c_28
        have hix := x_l12 (x_ix hP.1 hP.2 hC (by omega)) (x_ixle hQ.1 hQ.2 (N := 11) rfl (by decide)) hC0
        refine lv_aload_n hx hb dX7_onCard_31 rfl (lv_at hl 0 rfl) ?_
        refine xg_r hc hw 7 0 29 rfl rfl rfl rfl (by decide) (h7) ((hm 59 (by decide) (by decide)).2) mw_716 dX7_onCard_32 ?_
        refine lv_bipush (v := 12) hx hb dX7_onCard_35 (by decide) ?_
        refine lv_iload_n hx hb dX7_onCard_37 rfl (lv_at hl 1 rfl) ?_
        refine lv_imul hx hb dX7_onCard_38 ?_
        refine lv_iload_n hx hb dX7_onCard_39 rfl (lv_at hl 2 rfl) ?_
        refine lv_iadd hx hb dX7_onCard_40 ?_
        refine xa_ld hc hw 59 0 (12 * x_c a + x_c b) rfl ((hm 59 (by decide) (by decide)).1) (hix.1) (hix.2) dX7_onCard_41 ?_
        refine lv_goto (tgt := 46) hx hb dX7_onCard_42 (by decide) ?_
        exact xr_i hc hlocks hr rfl hw (⟨by rw [hσ_25, if_pos hP], fun _ _ => by rw [hσ_25]; simp [x_up]⟩) (Nat.le_of_ble_eq_true rfl) (Nat.le_of_ble_eq_true rfl) dX7_onCard_46
    refine lv_aload_n hx hb dX7_onCard_8 rfl (lv_at hl 0 rfl) ?_
    refine lv_iload_n hx hb dX7_onCard_9 rfl (lv_at hl 2 rfl) ?_
    refine lv_if_lt (tgt := 23) hx hb dX7_onCard_10 (by decide) (fun c_10 => ?_) (fun c_10 => ?_)
    · refine lv_iconst (v := 0) hx hb dX7_onCard_23 (by decide) ?_
      exact cut_24 _ (by simp_all [← Int32.not_le]) _ _ _ (lv_sub hl [0, 1, 2] rfl) hw
    · refine lv_iload_n hx hb dX7_onCard_13 rfl (lv_at hl 2 rfl) ?_
      refine lv_bipush (v := 11) hx hb dX7_onCard_14 (by decide) ?_
      refine lv_icmp_gt (tgt := 23) hx hb dX7_onCard_16 (by decide) (fun c_16 => ?_) (fun c_16 => ?_)
      · refine lv_iconst (v := 0) hx hb dX7_onCard_23 (by decide) ?_
        exact cut_24 _ (by simp_all [← Int32.not_le]) _ _ _ (lv_sub hl [0, 1, 2] rfl) hw
      · refine lv_iconst (v := 1) hx hb dX7_onCard_19 (by decide) ?_
        refine lv_goto (tgt := 24) hx hb dX7_onCard_20 (by decide) ?_
        exact cut_24 _ (by simp_all [← Int32.not_le]) _ _ _ (lv_sub hl [0, 1, 2] rfl) hw
/-- X7_sent -/
def q_X7_sent (σ : x_St) (a : Int32) : Int32 → x_St → Prop := fun r σ' => σ' = x_up σ 7 0 0 (if (0 ≤ a ∧ a < σ 7 0 4) then 0 else 1) ∧ ((0 ≤ a ∧ a < σ 7 0 4) → r = σ 67 0 (x_c a))
set_option maxHeartbeats 4000000 in
set_option maxRecDepth 100000 in
theorem c_X7_sent {l : Launch} {D : va_G} {cs : Nat → ClassId} {base : Nat} {ad : Nat → Nat → Nat} {n st : Nat → Nat} {σ : x_St} (a : Int32) (nO : Nat) (hO : σ 7 0 4 = nI nO) (hO0 : nO ≤ 30) (h7 : 0 < n 7) (hm : ∀ k, 36 ≤ k → k < 70 → 0 < n k ∧ 0 < st (100 + k)) : x_Ci l yX7_sent cX7_sent 2 (some .int) 3 0 0 D cs base ad n st σ [.ref (ad 7 0), .int a] (q_X7_sent σ a) (fun σ' => x_U D cs base ad n st σ') := by
  refine Met.ofW (cc := cX7_sent) (maxL := 2) (ret := some .int) (by decide) rfl ?_
  intro p e s m args below meth c s₁ B hml hv
  obtain ⟨rfl, hU⟩ := hv
  have hx := B.exec
  have hb := B.bytes
  have hr := B.returns
  have hts := atoms_spec (ws := Cond.code yX7_sent cX7_sent 2 (some .int) :: Tw) B.pre
  have hown : s.vm.findClass RX7 = some m.cls := findClass_of_methodNamed B.named
  have hlocks := B.notSynchronized
  have hc : CallFix p m c cX7_sent 2 s (([.ref (ad 7 0), .int a] : List Value).toArray) Tw RX7 := ⟨hx, hb, hml, hown, fun w hw => hts w (List.mem_cons_of_mem _ hw)⟩
  have hw := x_B.start hU
  have hl := lv_entry ([.ref (ad 7 0), .int a]) (n := 2) (Nat.le_of_ble_eq_true rfl)
  rw [lg_entry_eq]
  generalize (lg_sl ([.ref (ad 7 0), .int a]) ++ List.replicate (2 - (lg_sl ([.ref (ad 7 0), .int a])).length) Slot.unset).toArray = ls at hl ⊢
  have hl : lv_has ls 2 [(0, .ref (ad 7 0)), (1, .int a)] := hl
  show W p l e (x_rm 3 0 0) s m ([.ref (ad 7 0), .int a] : List Value).toArray below meth c s.heap [] 0 0 (MQ below (va_Qi (q_X7_sent σ a) (fun σ' => x_U D cs base ad n st σ') (x_A base)) ([.ref (ad 7 0), .int a] : List Value).toArray s 0 0 (x_A base)) (F0 m 0 ls [])
  refine lv_aload_n hx hb dX7_sent_0 rfl (lv_at hl 0 rfl) ?_
  refine lv_iconst (v := 0) hx hb dX7_sent_1 (by decide) ?_
  refine xp_i hc hw 7 0 0 rfl rfl rfl rfl (by decide) (h7) rfl (ty := .int) (by decide +kernel) rfl rfl mw_687 dX7_sent_2 (fun H locs hw => ?_)
  have cut_23 : ∀ (f : Int32), (f = if (0 ≤ a ∧ a < σ 7 0 4) then 1 else 0) → ∀ (H : Heap) (locs : List Loc) (ls : Array Slot), lv_has ls 2 [(0, .ref (ad 7 0)), (1, .int a)] → x_B D cs base ad n st (x_up σ 7 0 0 0) s H locs → W p l e (x_rm 3 0 0) s m ([.ref (ad 7 0), .int a] : List Value).toArray below meth c H locs 0 0 (MQ below (va_Qi (q_X7_sent σ a) (fun σ' => x_U D cs base ad n st σ') (x_A base)) ([.ref (ad 7 0), .int a] : List Value).toArray s 0 0 (x_A base)) (F0 m 23 ls [.int f, .ref (ad 7 0)]) := by
    intro f hf H locs ls hl hw
    refine lv_iconst (v := 1) hx hb dX7_sent_23 (by decide) ?_
    refine xc_Vi hc hw 7 0 (c_X7_right f 1 h7 hm) rfl rfl (h7) mw_834 mw_831 mw_4 mw_833 mp_20 xd_X7_right ⟨by decide, by decide⟩ (rfl) hl.1 (Nat.le_of_ble_eq_true rfl) dX7_sent_24 ⟨Nat.le_of_ble_eq_true rfl, Nat.le_of_ble_eq_true rfl⟩ (fun r_24 σ_24 H locs hq hw => ?_)
    have hq_24 := hq
    obtain ⟨hr_24, hσ_24⟩ := x_right hq_24 x_up_s hf (by decide)
    rw [x_up_up] at hσ_24
    refine lv_if_eq (tgt := 39) hx hb dX7_sent_27 (by decide) (fun c_27 => ?_) (fun c_27 => ?_)
    · refine lv_iconst (v := 0) hx hb dX7_sent_39 (by decide) ?_
      exact xr_i hc hlocks hr rfl hw (⟨hσ_24, fun h => absurd h (x_if0 hr_24 c_27)⟩) (Nat.le_of_ble_eq_true rfl) (Nat.le_of_ble_eq_true rfl) dX7_sent_40
    · have hP := x_if1 hr_24 c_27
      refine lv_aload_n hx hb dX7_sent_30 rfl (lv_at hl 0 rfl) ?_
      refine xg_r hc hw 7 0 37 rfl rfl rfl rfl (by decide) (h7) ((hm 67 (by decide) (by decide)).2) mw_724 dX7_sent_31 ?_
      refine lv_iload_n hx hb dX7_sent_34 rfl (lv_at hl 1 rfl) ?_
      refine xa_ld hc hw 67 0 (x_c a) rfl ((hm 67 (by decide) (by decide)).1) ((x_ix hP.1 hP.2 hO (by omega)).1) (Nat.lt_of_lt_of_le (x_ix hP.1 hP.2 hO (by omega)).2 hO0) dX7_sent_35 ?_
      refine lv_goto (tgt := 40) hx hb dX7_sent_36 (by decide) ?_
      exact xr_i hc hlocks hr rfl hw (⟨hσ_24, fun _ => by rw [hσ_24]; simp [x_up]⟩) (Nat.le_of_ble_eq_true rfl) (Nat.le_of_ble_eq_true rfl) dX7_sent_40
  refine lv_aload_n hx hb dX7_sent_5 rfl (lv_at hl 0 rfl) ?_
  refine lv_iload_n hx hb dX7_sent_6 rfl (lv_at hl 1 rfl) ?_
  refine lv_if_lt (tgt := 22) hx hb dX7_sent_7 (by decide) (fun c_7 => ?_) (fun c_7 => ?_)
  · refine lv_iconst (v := 0) hx hb dX7_sent_22 (by decide) ?_
    exact cut_23 _ (by simp_all [← Int32.not_le, x_up]) _ _ _ (lv_sub hl [0, 1] rfl) hw
  · refine lv_iload_n hx hb dX7_sent_10 rfl (lv_at hl 1 rfl) ?_
    refine lv_aload_n hx hb dX7_sent_11 rfl (lv_at hl 0 rfl) ?_
    refine xg_i hc hw 7 0 4 rfl rfl rfl rfl (by decide) (h7) mw_691 dX7_sent_12 ?_
    refine lv_icmp_ge (tgt := 22) hx hb dX7_sent_15 (by decide) (fun c_15 => ?_) (fun c_15 => ?_)
    · refine lv_iconst (v := 0) hx hb dX7_sent_22 (by decide) ?_
      exact cut_23 _ (by simp_all [← Int32.not_le, x_up]) _ _ _ (lv_sub hl [0, 1] rfl) hw
    · refine lv_iconst (v := 1) hx hb dX7_sent_18 (by decide) ?_
      refine lv_goto (tgt := 23) hx hb dX7_sent_19 (by decide) ?_
      exact cut_23 _ (by simp_all [← Int32.not_le, x_up]) _ _ _ (lv_sub hl [0, 1] rfl) hw
/-- X7_isFor -/
def q_X7_isFor (σ : x_St) (c9 o : Nat) : Int32 → x_St → Prop := fun r σ' => σ' = σ ∧ r = if m_for σ c9 o then 1 else 0
set_option maxHeartbeats 4000000 in
set_option maxRecDepth 100000 in
theorem c_X7_isFor {l : Launch} {D : va_G} {cs : Nat → ClassId} {base : Nat} {ad : Nat → Nat → Nat} {n st : Nat → Nat} {σ : x_St} (c9 o : Nat) (hc9 : c9 < 30) (ho : o < 30) (h7 : 0 < n 7) (hm : ∀ k, 36 ≤ k → k < 70 → 0 < n k ∧ 0 < st (100 + k)) : x_Ci l yX7_isFor cX7_isFor 3 (some .boolean) 1 0 0 D cs base ad n st σ [.ref (ad 7 0), .int (nI c9), .int (nI o)] (q_X7_isFor σ c9 o) (fun σ' => x_U D cs base ad n st σ') := by
  refine Met.ofW (cc := cX7_isFor) (maxL := 3) (ret := some .boolean) (by decide) rfl ?_
  intro p e s m args below meth c s₁ B hml hv
  obtain ⟨rfl, hU⟩ := hv
  have hx := B.exec
  have hb := B.bytes
  have hr := B.returns
  have hts := atoms_spec (ws := Cond.code yX7_isFor cX7_isFor 3 (some .boolean) :: Tw) B.pre
  have hown : s.vm.findClass RX7 = some m.cls := findClass_of_methodNamed B.named
  have hlocks := B.notSynchronized
  have hc : CallFix p m c cX7_isFor 3 s (([.ref (ad 7 0), .int (nI c9), .int (nI o)] : List Value).toArray) Tw RX7 := ⟨hx, hb, hml, hown, fun w hw => hts w (List.mem_cons_of_mem _ hw)⟩
  have hw := x_B.start hU
  have hl := lv_entry ([.ref (ad 7 0), .int (nI c9), .int (nI o)]) (n := 3) (Nat.le_of_ble_eq_true rfl)
  rw [lg_entry_eq]
  generalize (lg_sl ([.ref (ad 7 0), .int (nI c9), .int (nI o)]) ++ List.replicate (3 - (lg_sl ([.ref (ad 7 0), .int (nI c9), .int (nI o)])).length) Slot.unset).toArray = ls at hl ⊢
  have hl : lv_has ls 3 [(0, .ref (ad 7 0)), (1, .int (nI c9)), (2, .int (nI o))] := hl
  show W p l e (x_rm 1 0 0) s m ([.ref (ad 7 0), .int (nI c9), .int (nI o)] : List Value).toArray below meth c s.heap [] 0 0 (MQ below (va_Qi (q_X7_isFor σ c9 o) (fun σ' => x_U D cs base ad n st σ') (x_A base)) ([.ref (ad 7 0), .int (nI c9), .int (nI o)] : List Value).toArray s 0 0 (x_A base)) (F0 m 0 ls [])
  refine lv_aload_n hx hb dX7_isFor_0 rfl (lv_at hl 0 rfl) ?_
  refine xg_r hc hw 7 0 28 rfl rfl rfl rfl (by decide) (h7) ((hm 58 (by decide) (by decide)).2) mw_715 dX7_isFor_1 ?_
  refine lv_iload_n hx hb dX7_isFor_4 rfl (lv_at hl 1 rfl) ?_
  refine xa_ld hc hw 58 0 c9 rfl ((hm 58 (by decide) (by decide)).1) (rfl) (hc9) dX7_isFor_5 ?_
  refine lv_iconst (v := (-1)) hx hb dX7_isFor_6 (by decide) ?_
  refine lv_icmp_ne (tgt := 74) hx hb dX7_isFor_7 (by decide) (fun c_7 => ?_) (fun c_7 => ?_)
  · refine lv_iconst (v := 0) hx hb dX7_isFor_74 (by decide) ?_
    exact xr_i hc hlocks hr rfl hw (⟨rfl, by simp_all [← Int32.not_le]⟩) (Nat.le_of_ble_eq_true rfl) (Nat.le_of_ble_eq_true rfl) dX7_isFor_75
  · refine lv_aload_n hx hb dX7_isFor_10 rfl (lv_at hl 0 rfl) ?_
    refine xg_r hc hw 7 0 25 rfl rfl rfl rfl (by decide) (h7) ((hm 55 (by decide) (by decide)).2) mw_712 dX7_isFor_11 ?_
    refine lv_iload_n hx hb dX7_isFor_14 rfl (lv_at hl 1 rfl) ?_
    refine xa_ld hc hw 55 0 c9 rfl ((hm 55 (by decide) (by decide)).1) (rfl) (hc9) dX7_isFor_15 ?_
    refine lv_aload_n hx hb dX7_isFor_16 rfl (lv_at hl 0 rfl) ?_
    refine xg_r hc hw 7 0 31 rfl rfl rfl rfl (by decide) (h7) ((hm 61 (by decide) (by decide)).2) mw_718 dX7_isFor_17 ?_
    refine lv_iload_n hx hb dX7_isFor_20 rfl (lv_at hl 2 rfl) ?_
    refine xa_ld hc hw 61 0 o rfl ((hm 61 (by decide) (by decide)).1) (rfl) (ho) dX7_isFor_21 ?_
    refine lv_icmp_ne (tgt := 74) hx hb dX7_isFor_22 (by decide) (fun c_22 => ?_) (fun c_22 => ?_)
    · refine lv_iconst (v := 0) hx hb dX7_isFor_74 (by decide) ?_
      exact xr_i hc hlocks hr rfl hw (⟨rfl, by simp_all [← Int32.not_le]⟩) (Nat.le_of_ble_eq_true rfl) (Nat.le_of_ble_eq_true rfl) dX7_isFor_75
    · refine lv_aload_n hx hb dX7_isFor_25 rfl (lv_at hl 0 rfl) ?_
      refine xg_r hc hw 7 0 26 rfl rfl rfl rfl (by decide) (h7) ((hm 56 (by decide) (by decide)).2) mw_713 dX7_isFor_26 ?_
      refine lv_iload_n hx hb dX7_isFor_29 rfl (lv_at hl 1 rfl) ?_
      refine xa_ld hc hw 56 0 c9 rfl ((hm 56 (by decide) (by decide)).1) (rfl) (hc9) dX7_isFor_30 ?_
      refine lv_aload_n hx hb dX7_isFor_31 rfl (lv_at hl 0 rfl) ?_
      refine xg_r hc hw 7 0 32 rfl rfl rfl rfl (by decide) (h7) ((hm 62 (by decide) (by decide)).2) mw_719 dX7_isFor_32 ?_
      refine lv_iload_n hx hb dX7_isFor_35 rfl (lv_at hl 2 rfl) ?_
      refine xa_ld hc hw 62 0 o rfl ((hm 62 (by decide) (by decide)).1) (rfl) (ho) dX7_isFor_36 ?_
      refine lv_icmp_ne (tgt := 74) hx hb dX7_isFor_37 (by decide) (fun c_37 => ?_) (fun c_37 => ?_)
      · refine lv_iconst (v := 0) hx hb dX7_isFor_74 (by decide) ?_
        exact xr_i hc hlocks hr rfl hw (⟨rfl, by simp_all [← Int32.not_le]⟩) (Nat.le_of_ble_eq_true rfl) (Nat.le_of_ble_eq_true rfl) dX7_isFor_75
      · refine lv_aload_n hx hb dX7_isFor_40 rfl (lv_at hl 0 rfl) ?_
        refine xg_r hc hw 7 0 27 rfl rfl rfl rfl (by decide) (h7) ((hm 57 (by decide) (by decide)).2) mw_714 dX7_isFor_41 ?_
        refine lv_iload_n hx hb dX7_isFor_44 rfl (lv_at hl 1 rfl) ?_
        refine xa_ld hc hw 57 0 c9 rfl ((hm 57 (by decide) (by decide)).1) (rfl) (hc9) dX7_isFor_45 ?_
        refine lv_aload_n hx hb dX7_isFor_46 rfl (lv_at hl 0 rfl) ?_
        refine xg_r hc hw 7 0 33 rfl rfl rfl rfl (by decide) (h7) ((hm 63 (by decide) (by decide)).2) mw_720 dX7_isFor_47 ?_
        refine lv_iload_n hx hb dX7_isFor_50 rfl (lv_at hl 2 rfl) ?_
        refine xa_ld hc hw 63 0 o rfl ((hm 63 (by decide) (by decide)).1) (rfl) (ho) dX7_isFor_51 ?_
        refine lv_icmp_lt (tgt := 74) hx hb dX7_isFor_52 (by decide) (fun c_52 => ?_) (fun c_52 => ?_)
        · refine lv_iconst (v := 0) hx hb dX7_isFor_74 (by decide) ?_
          exact xr_i hc hlocks hr rfl hw (⟨rfl, by simp_all [← Int32.not_le]⟩) (Nat.le_of_ble_eq_true rfl) (Nat.le_of_ble_eq_true rfl) dX7_isFor_75
        · refine lv_aload_n hx hb dX7_isFor_55 rfl (lv_at hl 0 rfl) ?_
          refine xg_r hc hw 7 0 27 rfl rfl rfl rfl (by decide) (h7) ((hm 57 (by decide) (by decide)).2) mw_714 dX7_isFor_56 ?_
          refine lv_iload_n hx hb dX7_isFor_59 rfl (lv_at hl 1 rfl) ?_
          refine xa_ld hc hw 57 0 c9 rfl ((hm 57 (by decide) (by decide)).1) (rfl) (hc9) dX7_isFor_60 ?_
          refine lv_aload_n hx hb dX7_isFor_61 rfl (lv_at hl 0 rfl) ?_
          refine xg_r hc hw 7 0 34 rfl rfl rfl rfl (by decide) (h7) ((hm 64 (by decide) (by decide)).2) mw_721 dX7_isFor_62 ?_
          refine lv_iload_n hx hb dX7_isFor_65 rfl (lv_at hl 2 rfl) ?_
          refine xa_ld hc hw 64 0 o rfl ((hm 64 (by decide) (by decide)).1) (rfl) (ho) dX7_isFor_66 ?_
          refine lv_icmp_gt (tgt := 74) hx hb dX7_isFor_67 (by decide) (fun c_67 => ?_) (fun c_67 => ?_)
          · refine lv_iconst (v := 0) hx hb dX7_isFor_74 (by decide) ?_
            exact xr_i hc hlocks hr rfl hw (⟨rfl, by simp_all [← Int32.not_le]⟩) (Nat.le_of_ble_eq_true rfl) (Nat.le_of_ble_eq_true rfl) dX7_isFor_75
          · refine lv_iconst (v := 1) hx hb dX7_isFor_70 (by decide) ?_
            refine lv_goto (tgt := 75) hx hb dX7_isFor_71 (by decide) ?_
            exact xr_i hc hlocks hr rfl hw (⟨rfl, by simp_all [← Int32.not_le]⟩) (Nat.le_of_ble_eq_true rfl) (Nat.le_of_ble_eq_true rfl) dX7_isFor_75
/-- X7_fits -/
def q_X7_fits (σ : x_St) (b : Nat) (s1 s2 s3 s4 s5 : Int32) : Int32 → x_St → Prop := fun r σ' => σ' = σ ∧ r = if m_fit σ b s1 s2 s3 s4 s5 then 1 else 0
set_option maxHeartbeats 4000000 in
set_option maxRecDepth 100000 in
theorem c_X7_fits {l : Launch} {D : va_G} {cs : Nat → ClassId} {base : Nat} {ad : Nat → Nat → Nat} {n st : Nat → Nat} {σ : x_St} (b : Nat) (s1 s2 s3 s4 s5 : Int32) (hb4 : b < 400) (h7 : 0 < n 7) (hm : ∀ k, 36 ≤ k → k < 70 → 0 < n k ∧ 0 < st (100 + k)) : x_Ci l yX7_fits cX7_fits 7 (some .boolean) 1 0 0 D cs base ad n st σ [.ref (ad 7 0), .int (nI b), .int s1, .int s2, .int s3, .int s4, .int s5] (q_X7_fits σ b s1 s2 s3 s4 s5) (fun σ' => x_U D cs base ad n st σ') := by
  refine Met.ofW (cc := cX7_fits) (maxL := 7) (ret := some .boolean) (by decide) rfl ?_
  intro p e s m args below meth c s₁ B hml hv
  obtain ⟨rfl, hU⟩ := hv
  have hx := B.exec
  have hb := B.bytes
  have hr := B.returns
  have hts := atoms_spec (ws := Cond.code yX7_fits cX7_fits 7 (some .boolean) :: Tw) B.pre
  have hown : s.vm.findClass RX7 = some m.cls := findClass_of_methodNamed B.named
  have hlocks := B.notSynchronized
  have hc : CallFix p m c cX7_fits 7 s (([.ref (ad 7 0), .int (nI b), .int s1, .int s2, .int s3, .int s4, .int s5] : List Value).toArray) Tw RX7 := ⟨hx, hb, hml, hown, fun w hw => hts w (List.mem_cons_of_mem _ hw)⟩
  have hw := x_B.start hU
  have hl := lv_entry ([.ref (ad 7 0), .int (nI b), .int s1, .int s2, .int s3, .int s4, .int s5]) (n := 7) (Nat.le_of_ble_eq_true rfl)
  rw [lg_entry_eq]
  generalize (lg_sl ([.ref (ad 7 0), .int (nI b), .int s1, .int s2, .int s3, .int s4, .int s5]) ++ List.replicate (7 - (lg_sl ([.ref (ad 7 0), .int (nI b), .int s1, .int s2, .int s3, .int s4, .int s5])).length) Slot.unset).toArray = ls at hl ⊢
  have hl : lv_has ls 7 [(0, .ref (ad 7 0)), (1, .int (nI b)), (2, .int s1), (3, .int s2), (4, .int s3), (5, .int s4), (6, .int s5)] := hl
  show W p l e (x_rm 1 0 0) s m ([.ref (ad 7 0), .int (nI b), .int s1, .int s2, .int s3, .int s4, .int s5] : List Value).toArray below meth c s.heap [] 0 0 (MQ below (va_Qi (q_X7_fits σ b s1 s2 s3 s4 s5) (fun σ' => x_U D cs base ad n st σ') (x_A base)) ([.ref (ad 7 0), .int (nI b), .int s1, .int s2, .int s3, .int s4, .int s5] : List Value).toArray s 0 0 (x_A base)) (F0 m 0 ls [])
  refine lv_aload_n hx hb dX7_fits_0 rfl (lv_at hl 0 rfl) ?_
  refine xg_r hc hw 7 0 16 rfl rfl rfl rfl (by decide) (h7) ((hm 46 (by decide) (by decide)).2) mw_703 dX7_fits_1 ?_
  refine lv_iload_n hx hb dX7_fits_4 rfl (lv_at hl 1 rfl) ?_
  refine xa_ld hc hw 46 0 b rfl ((hm 46 (by decide) (by decide)).1) (rfl) (hb4) dX7_fits_5 ?_
  refine lv_iconst (v := 2) hx hb dX7_fits_6 (by decide) ?_
  refine lv_icmp_ne (tgt := 70) hx hb dX7_fits_7 (by decide) (fun c_7 => ?_) (fun c_7 => ?_)
  · refine lv_iconst (v := 0) hx hb dX7_fits_70 (by decide) ?_
    exact xr_i hc hlocks hr rfl hw (⟨rfl, by simp_all [← Int32.not_le]⟩) (Nat.le_of_ble_eq_true rfl) (Nat.le_of_ble_eq_true rfl) dX7_fits_71
  · refine lv_aload_n hx hb dX7_fits_10 rfl (lv_at hl 0 rfl) ?_
    refine xg_r hc hw 7 0 12 rfl rfl rfl rfl (by decide) (h7) ((hm 42 (by decide) (by decide)).2) mw_699 dX7_fits_11 ?_
    refine lv_iload_n hx hb dX7_fits_14 rfl (lv_at hl 1 rfl) ?_
    refine xa_ld hc hw 42 0 b rfl ((hm 42 (by decide) (by decide)).1) (rfl) (hb4) dX7_fits_15 ?_
    refine lv_iload_n hx hb dX7_fits_16 rfl (lv_at hl 2 rfl) ?_
    refine lv_icmp_ne (tgt := 70) hx hb dX7_fits_17 (by decide) (fun c_17 => ?_) (fun c_17 => ?_)
    · refine lv_iconst (v := 0) hx hb dX7_fits_70 (by decide) ?_
      exact xr_i hc hlocks hr rfl hw (⟨rfl, by simp_all [← Int32.not_le]⟩) (Nat.le_of_ble_eq_true rfl) (Nat.le_of_ble_eq_true rfl) dX7_fits_71
    · refine lv_aload_n hx hb dX7_fits_20 rfl (lv_at hl 0 rfl) ?_
      refine xg_r hc hw 7 0 17 rfl rfl rfl rfl (by decide) (h7) ((hm 47 (by decide) (by decide)).2) mw_704 dX7_fits_21 ?_
      refine lv_iload_n hx hb dX7_fits_24 rfl (lv_at hl 1 rfl) ?_
      refine xa_ld hc hw 47 0 b rfl ((hm 47 (by decide) (by decide)).1) (rfl) (hb4) dX7_fits_25 ?_
      refine lv_iload_n hx hb dX7_fits_26 rfl (lv_at hl 3 rfl) ?_
      refine lv_icmp_ne (tgt := 70) hx hb dX7_fits_27 (by decide) (fun c_27 => ?_) (fun c_27 => ?_)
      · refine lv_iconst (v := 0) hx hb dX7_fits_70 (by decide) ?_
        exact xr_i hc hlocks hr rfl hw (⟨rfl, by simp_all [← Int32.not_le]⟩) (Nat.le_of_ble_eq_true rfl) (Nat.le_of_ble_eq_true rfl) dX7_fits_71
      · refine lv_aload_n hx hb dX7_fits_30 rfl (lv_at hl 0 rfl) ?_
        refine xg_r hc hw 7 0 14 rfl rfl rfl rfl (by decide) (h7) ((hm 44 (by decide) (by decide)).2) mw_701 dX7_fits_31 ?_
        refine lv_iload_n hx hb dX7_fits_34 rfl (lv_at hl 1 rfl) ?_
        refine xa_ld hc hw 44 0 b rfl ((hm 44 (by decide) (by decide)).1) (rfl) (hb4) dX7_fits_35 ?_
        refine lv_iload hx hb dX7_fits_36 (lv_at hl 4 rfl) ?_
        refine lv_icmp_ne (tgt := 70) hx hb dX7_fits_38 (by decide) (fun c_38 => ?_) (fun c_38 => ?_)
        · refine lv_iconst (v := 0) hx hb dX7_fits_70 (by decide) ?_
          exact xr_i hc hlocks hr rfl hw (⟨rfl, by simp_all [← Int32.not_le]⟩) (Nat.le_of_ble_eq_true rfl) (Nat.le_of_ble_eq_true rfl) dX7_fits_71
        · refine lv_aload_n hx hb dX7_fits_41 rfl (lv_at hl 0 rfl) ?_
          refine xg_r hc hw 7 0 13 rfl rfl rfl rfl (by decide) (h7) ((hm 43 (by decide) (by decide)).2) mw_700 dX7_fits_42 ?_
          refine lv_iload_n hx hb dX7_fits_45 rfl (lv_at hl 1 rfl) ?_
          refine xa_ld hc hw 43 0 b rfl ((hm 43 (by decide) (by decide)).1) (rfl) (hb4) dX7_fits_46 ?_
          refine lv_iload hx hb dX7_fits_47 (lv_at hl 5 rfl) ?_
          refine lv_icmp_lt (tgt := 70) hx hb dX7_fits_49 (by decide) (fun c_49 => ?_) (fun c_49 => ?_)
          · refine lv_iconst (v := 0) hx hb dX7_fits_70 (by decide) ?_
            exact xr_i hc hlocks hr rfl hw (⟨rfl, by simp_all [← Int32.not_le]⟩) (Nat.le_of_ble_eq_true rfl) (Nat.le_of_ble_eq_true rfl) dX7_fits_71
          · refine lv_aload_n hx hb dX7_fits_52 rfl (lv_at hl 0 rfl) ?_
            refine xg_r hc hw 7 0 13 rfl rfl rfl rfl (by decide) (h7) ((hm 43 (by decide) (by decide)).2) mw_700 dX7_fits_53 ?_
            refine lv_iload_n hx hb dX7_fits_56 rfl (lv_at hl 1 rfl) ?_
            refine xa_ld hc hw 43 0 b rfl ((hm 43 (by decide) (by decide)).1) (rfl) (hb4) dX7_fits_57 ?_
            refine lv_iload hx hb dX7_fits_58 (lv_at hl 5 rfl) ?_
            refine lv_iload hx hb dX7_fits_60 (lv_at hl 6 rfl) ?_
            refine lv_iadd hx hb dX7_fits_62 ?_
            refine lv_icmp_gt (tgt := 70) hx hb dX7_fits_63 (by decide) (fun c_63 => ?_) (fun c_63 => ?_)
            · refine lv_iconst (v := 0) hx hb dX7_fits_70 (by decide) ?_
              exact xr_i hc hlocks hr rfl hw (⟨rfl, by simp_all [← Int32.not_le]⟩) (Nat.le_of_ble_eq_true rfl) (Nat.le_of_ble_eq_true rfl) dX7_fits_71
            · refine lv_iconst (v := 1) hx hb dX7_fits_66 (by decide) ?_
              refine lv_goto (tgt := 71) hx hb dX7_fits_67 (by decide) ?_
              exact xr_i hc hlocks hr rfl hw (⟨rfl, by simp_all [← Int32.not_le]⟩) (Nat.le_of_ble_eq_true rfl) (Nat.le_of_ble_eq_true rfl) dX7_fits_71
/-- X7_inState -/
def q_X7_inState (σ : x_St) (v : Int32) (nB : Nat) : Int32 → x_St → Prop := fun r σ' => σ' = σ ∧ r = nI (m_cnt σ v nB)
set_option maxHeartbeats 4000000 in
set_option maxRecDepth 100000 in
theorem c_X7_inState {l : Launch} {D : va_G} {cs : Nat → ClassId} {base : Nat} {ad : Nat → Nat → Nat} {n st : Nat → Nat} {σ : x_St} (v : Int32) (nB : Nat) (hB : σ 7 0 2 = nI nB) (hB0 : nB ≤ 400) (h7 : 0 < n 7) (hm : ∀ k, 36 ≤ k → k < 70 → 0 < n k ∧ 0 < st (100 + k)) : x_Ci l yX7_inState cX7_inState 4 (some .int) 1 0 0 D cs base ad n st σ [.ref (ad 7 0), .int v] (q_X7_inState σ v nB) (fun σ' => x_U D cs base ad n st σ') := by
  refine Met.ofW (cc := cX7_inState) (maxL := 4) (ret := some .int) (by decide) rfl ?_
  intro p e s m args below meth c s₁ B hml hv
  obtain ⟨rfl, hU⟩ := hv
  have hx := B.exec
  have hb := B.bytes
  have hr := B.returns
  have hts := atoms_spec (ws := Cond.code yX7_inState cX7_inState 4 (some .int) :: Tw) B.pre
  have hown : s.vm.findClass RX7 = some m.cls := findClass_of_methodNamed B.named
  have hlocks := B.notSynchronized
  have hc : CallFix p m c cX7_inState 4 s (([.ref (ad 7 0), .int v] : List Value).toArray) Tw RX7 := ⟨hx, hb, hml, hown, fun w hw => hts w (List.mem_cons_of_mem _ hw)⟩
  have hw := x_B.start hU
  have hl := lv_entry ([.ref (ad 7 0), .int v]) (n := 4) (Nat.le_of_ble_eq_true rfl)
  rw [lg_entry_eq]
  generalize (lg_sl ([.ref (ad 7 0), .int v]) ++ List.replicate (4 - (lg_sl ([.ref (ad 7 0), .int v])).length) Slot.unset).toArray = ls at hl ⊢
  have hl : lv_has ls 4 [(0, .ref (ad 7 0)), (1, .int v)] := hl
  show W p l e (x_rm 1 0 0) s m ([.ref (ad 7 0), .int v] : List Value).toArray below meth c s.heap [] 0 0 (MQ below (va_Qi (q_X7_inState σ v nB) (fun σ' => x_U D cs base ad n st σ') (x_A base)) ([.ref (ad 7 0), .int v] : List Value).toArray s 0 0 (x_A base)) (F0 m 0 ls [])
  refine lv_iconst (v := 0) hx hb dX7_inState_0 (by decide) ?_
  refine lv_istore_n (lv' := [(2, .int 0), (0, .ref (ad 7 0)), (1, .int v)]) hx hb dX7_inState_1 rfl hl (by decide) rfl (fun ls hl => ?_)
  refine lv_iconst (v := 0) hx hb dX7_inState_2 (by decide) ?_
  refine lv_istore_n (lv' := [(3, .int 0), (2, .int 0), (0, .ref (ad 7 0)), (1, .int v)]) hx hb dX7_inState_3 rfl hl (by decide) rfl (fun ls hl => ?_)
  have cut_4 : ∀ (N : Nat) (k : Nat) (x2 : Int32) (x3 : Int32), (k ≤ nB) → (x2 = nI (m_cnt σ v k)) → (x3 = nI k) → (nB - k < N) → ∀ (H : Heap) (locs : List Loc) (ls : Array Slot), lv_has ls 4 [(0, .ref (ad 7 0)), (1, .int v), (2, .int x2), (3, .int x3)] → x_B D cs base ad n st σ s H locs → W p l e (x_rm 1 0 0) s m ([.ref (ad 7 0), .int v] : List Value).toArray below meth c H locs 0 0 (MQ below (va_Qi (q_X7_inState σ v nB) (fun σ' => x_U D cs base ad n st σ') (x_A base)) ([.ref (ad 7 0), .int v] : List Value).toArray s 0 0 (x_A base)) (F0 m 4 ls []) := by
    intro N
    induction N with
    | zero => intro k x2 x3 hk h2 h3 hN; exact absurd hN (Nat.not_lt_zero _)
    | succ N ih_4 =>
      intro k x2 x3 hk h2 h3 hN H locs ls hl hw
      refine lv_iload_n hx hb dX7_inState_4 rfl (lv_at hl 3 rfl) ?_
      refine lv_aload_n hx hb dX7_inState_5 rfl (lv_at hl 0 rfl) ?_
      refine xg_i hc hw 7 0 2 rfl rfl rfl rfl (by decide) (h7) mw_689 dX7_inState_6 ?_
      refine lv_icmp_ge (tgt := 31) hx hb dX7_inState_9 (by decide) (fun c_9 => ?_) (fun c_9 => ?_)
      · refine lv_iload_n hx hb dX7_inState_31 rfl (lv_at hl 2 rfl) ?_
        exact xr_i hc hlocks hr rfl hw (⟨rfl, by rw [h2, show k = nB from Nat.le_antisymm hk (x_ge h3 hB (by omega) (by omega) c_9)]⟩) (Nat.le_of_ble_eq_true rfl) (Nat.le_of_ble_eq_true rfl) dX7_inState_32
      · have hlt : k < nB := x_nge h3 hB (by omega) (by omega) c_9
        refine lv_aload_n hx hb dX7_inState_12 rfl (lv_at hl 0 rfl) ?_
        refine xg_r hc hw 7 0 16 rfl rfl rfl rfl (by decide) (h7) ((hm 46 (by decide) (by decide)).2) mw_703 dX7_inState_13 ?_
        refine lv_iload_n hx hb dX7_inState_16 rfl (lv_at hl 3 rfl) ?_
        refine xa_ld hc hw 46 0 k rfl ((hm 46 (by decide) (by decide)).1) (h3) (by show _ < 400; omega) dX7_inState_17 ?_
        refine lv_iload_n hx hb dX7_inState_18 rfl (lv_at hl 1 rfl) ?_
        refine lv_icmp_ne (tgt := 25) hx hb dX7_inState_19 (by decide) (fun c_19 => ?_) (fun c_19 => ?_)
        · obtain ⟨x3_25, ex3_25⟩ : ∃ y : Int32, y = x3 + 1 := ⟨_, rfl⟩
          refine lv_iinc (v := x3_25) (lv' := [(3, .int x3_25), (0, .ref (ad 7 0)), (1, .int v), (2, .int x2)]) hx hb dX7_inState_25 hl (k := 3) rfl (by rw [ex3_25]; rfl) (by decide) rfl (fun ls hl => ?_)
          refine lv_goto (tgt := 4) hx hb dX7_inState_28 (by decide) ?_
          exact ih_4 (k + 1) _ _ (by omega) (by first | (rw [ex2_22, h2, nI_1, m_cnt, if_pos c_19]) | (rw [h2, m_cnt, if_neg c_19, Nat.add_zero])) (by rw [ex3_25, h3, nI_1]) (by omega) _ _ _ (lv_sub hl [1, 2, 3, 0] rfl) hw
        · obtain ⟨x2_22, ex2_22⟩ : ∃ y : Int32, y = x2 + 1 := ⟨_, rfl⟩
          refine lv_iinc (v := x2_22) (lv' := [(2, .int x2_22), (0, .ref (ad 7 0)), (1, .int v), (3, .int x3)]) hx hb dX7_inState_22 hl (k := 2) rfl (by rw [ex2_22]; rfl) (by decide) rfl (fun ls hl => ?_)
          obtain ⟨x3_25, ex3_25⟩ : ∃ y : Int32, y = x3 + 1 := ⟨_, rfl⟩
          refine lv_iinc (v := x3_25) (lv' := [(3, .int x3_25), (2, .int x2_22), (0, .ref (ad 7 0)), (1, .int v)]) hx hb dX7_inState_25 hl (k := 3) rfl (by rw [ex3_25]; rfl) (by decide) rfl (fun ls hl => ?_)
          refine lv_goto (tgt := 4) hx hb dX7_inState_28 (by decide) ?_
          exact ih_4 (k + 1) _ _ (by omega) (by first | (rw [ex2_22, h2, nI_1, m_cnt, if_pos c_19]) | (rw [h2, m_cnt, if_neg c_19, Nat.add_zero])) (by rw [ex3_25, h3, nI_1]) (by omega) _ _ _ (lv_sub hl [2, 3, 1, 0] rfl) hw
  exact cut_4 _ 0 _ _ (Nat.zero_le _) (rfl) (rfl) (Nat.lt_succ_self _) _ _ _ (lv_sub hl [2, 3, 1, 0] rfl) hw
/-- X7_worked -/
def q_X7_worked (σ : x_St) (mm bb : Nat) (h : Int32) : Int32 → x_St → Prop := fun r σ' => r = (m_wk σ mm bb h).1 ∧ σ' = (m_wk σ mm bb h).2
set_option maxHeartbeats 4000000 in
set_option maxRecDepth 100000 in
theorem c_X7_worked {l : Launch} {D : va_G} {cs : Nat → ClassId} {base : Nat} {ad : Nat → Nat → Nat} {n st : Nat → Nat} {σ : x_St} (mm bb : Nat) (h : Int32) (hmm : mm < 6) (hbb : bb < 400) (hth : ¬ σ 43 0 bb = 0) (h7 : 0 < n 7) (hm : ∀ k, 36 ≤ k → k < 70 → 0 < n k ∧ 0 < st (100 + k)) : x_Ci l yX7_worked cX7_worked 6 (some .int) 1 0 0 D cs base ad n st σ [.ref (ad 7 0), .int (nI mm), .int (nI bb), .int h] (q_X7_worked σ mm bb h) (fun σ' => x_U D cs base ad n st σ') := by
  refine Met.ofW (cc := cX7_worked) (maxL := 6) (ret := some .int) (by decide) rfl ?_
  intro p e s m args below meth c s₁ B hml hv
  obtain ⟨rfl, hU⟩ := hv
  have hx := B.exec
  have hb := B.bytes
  have hr := B.returns
  have hts := atoms_spec (ws := Cond.code yX7_worked cX7_worked 6 (some .int) :: Tw) B.pre
  have hown : s.vm.findClass RX7 = some m.cls := findClass_of_methodNamed B.named
  have hlocks := B.notSynchronized
  have hc : CallFix p m c cX7_worked 6 s (([.ref (ad 7 0), .int (nI mm), .int (nI bb), .int h] : List Value).toArray) Tw RX7 := ⟨hx, hb, hml, hown, fun w hw => hts w (List.mem_cons_of_mem _ hw)⟩
  have hw := x_B.start hU
  have hl := lv_entry ([.ref (ad 7 0), .int (nI mm), .int (nI bb), .int h]) (n := 6) (Nat.le_of_ble_eq_true rfl)
  rw [lg_entry_eq]
  generalize (lg_sl ([.ref (ad 7 0), .int (nI mm), .int (nI bb), .int h]) ++ List.replicate (6 - (lg_sl ([.ref (ad 7 0), .int (nI mm), .int (nI bb), .int h])).length) Slot.unset).toArray = ls at hl ⊢
  have hl : lv_has ls 6 [(0, .ref (ad 7 0)), (1, .int (nI mm)), (2, .int (nI bb)), (3, .int h)] := hl
  show W p l e (x_rm 1 0 0) s m ([.ref (ad 7 0), .int (nI mm), .int (nI bb), .int h] : List Value).toArray below meth c s.heap [] 0 0 (MQ below (va_Qi (q_X7_worked σ mm bb h) (fun σ' => x_U D cs base ad n st σ') (x_A base)) ([.ref (ad 7 0), .int (nI mm), .int (nI bb), .int h] : List Value).toArray s 0 0 (x_A base)) (F0 m 0 ls [])
  refine lv_iload_n hx hb dX7_worked_0 rfl (lv_at hl 1 rfl) ?_
  refine lv_iconst (v := 3) hx hb dX7_worked_1 (by decide) ?_
  refine lv_icmp_ge (tgt := 9) hx hb dX7_worked_2 (by decide) (fun c_2 => ?_) (fun c_2 => ?_)
  · refine lv_iconst (v := 0) hx hb dX7_worked_9 (by decide) ?_
    refine lv_istore (lv' := [(4, .int 0), (0, .ref (ad 7 0)), (1, .int (nI mm)), (2, .int (nI bb)), (3, .int h)]) hx hb dX7_worked_10 hl (by decide) rfl (fun ls hl => ?_)
    refine lv_aload_n hx hb dX7_worked_12 rfl (lv_at hl 1 rfl) ?_
    refine xg_r hc hw 7 0 16 rfl rfl rfl rfl (by decide) (h7) ((hm 46 (by decide) (by decide)).2) mw_703 dX7_worked_13 ?_
    refine lv_iload_n hx hb dX7_worked_16 rfl (lv_at hl 3 rfl) ?_
    refine xa_ld hc hw 46 0 bb rfl ((hm 46 (by decide) (by decide)).1) (rfl) (hbb) dX7_worked_17 ?_
    refine lv_iload hx hb dX7_worked_18 (lv_at hl 0 rfl) ?_
    refine lv_if_eq (tgt := 27) hx hb dX7_worked_20 (by decide) (fun c_20 => ?_) (fun c_20 => ?_)
    · refine lv_iconst (v := 1) hx hb dX7_worked_27 (by decide) ?_
      refine lv_icmp_eq (tgt := 33) hx hb dX7_worked_28 (by decide) (fun c_28 => ?_) (fun c_28 => ?_)
      · refine lv_iload hx hb dX7_worked_33 (lv_at hl 0 rfl) ?_
        refine lv_if_ne (tgt := 60) hx hb dX7_worked_35 (by decide) (fun c_35 => ?_) (fun c_35 => ?_)
        · exact absurd c_35 (by decide)
        · refine lv_iload_n hx hb dX7_worked_38 rfl (lv_at hl 4 rfl) ?_
          refine lv_iconst (v := 2) hx hb dX7_worked_39 (by decide) ?_
          refine lv_icmp_eq (tgt := 60) hx hb dX7_worked_40 (by decide) (fun c_40 => ?_) (fun c_40 => ?_)
          · refine lv_aload_n hx hb dX7_worked_60 rfl (lv_at hl 1 rfl) ?_
            refine xg_r hc hw 7 0 21 rfl rfl rfl rfl (by decide) (h7) ((hm 51 (by decide) (by decide)).2) mw_708 dX7_worked_61 ?_
            refine lv_iload_n hx hb dX7_worked_64 rfl (lv_at hl 2 rfl) ?_
            refine lv_dup2_11 hx hb dX7_worked_65 rfl rfl ?_
            refine xa_ld hc hw 51 0 mm rfl ((hm 51 (by decide) (by decide)).1) (rfl) (hmm) dX7_worked_66 ?_
            refine lv_aload_n hx hb dX7_worked_67 rfl (lv_at hl 1 rfl) ?_
            refine xg_r hc hw 7 0 13 rfl rfl rfl rfl (by decide) (h7) ((hm 43 (by decide) (by decide)).2) mw_700 dX7_worked_68 ?_
            refine lv_iload_n hx hb dX7_worked_71 rfl (lv_at hl 3 rfl) ?_
            refine xa_ld hc hw 43 0 bb rfl ((hm 43 (by decide) (by decide)).1) (rfl) (hbb) dX7_worked_72 ?_
            refine lv_iadd hx hb dX7_worked_73 ?_
            refine xa_st hc hw 51 0 mm rfl ((hm 51 (by decide) (by decide)).1) (rfl) (hmm) dX7_worked_74 (fun H locs hw => ?_)
            refine lv_aload_n hx hb dX7_worked_75 rfl (lv_at hl 1 rfl) ?_
            refine xg_r hc hw 7 0 21 rfl rfl rfl rfl (by decide) (h7) ((hm 51 (by decide) (by decide)).2) mw_708 dX7_worked_76 ?_
            refine lv_iload_n hx hb dX7_worked_79 rfl (lv_at hl 2 rfl) ?_
            refine xa_ld hc hw 51 0 mm rfl ((hm 51 (by decide) (by decide)).1) (rfl) (hmm) dX7_worked_80 ?_
            refine lv_aload_n hx hb dX7_worked_81 rfl (lv_at hl 1 rfl) ?_
            refine xg_r hc hw 7 0 22 rfl rfl rfl rfl (by decide) (h7) ((hm 52 (by decide) (by decide)).2) mw_709 dX7_worked_82 ?_
            refine lv_iload_n hx hb dX7_worked_85 rfl (lv_at hl 2 rfl) ?_
            refine xa_ld hc hw 52 0 mm rfl ((hm 52 (by decide) (by decide)).1) (rfl) (hmm) dX7_worked_86 ?_
            refine lv_isub hx hb dX7_worked_87 ?_
            refine lv_topi (fun x5_88 ex5_88 => ?_)
            refine lv_istore (lv' := [(5, .int x5_88), (4, .int 0), (0, .ref (ad 7 0)), (1, .int (nI mm)), (2, .int (nI bb)), (3, .int h)]) hx hb dX7_worked_88 hl (by decide) rfl (fun ls hl => ?_)
            refine lv_iload hx hb dX7_worked_90 (lv_at hl 0 rfl) ?_
            refine lv_if_le (tgt := 141) hx hb dX7_worked_92 (by decide) (fun c_92 => ?_) (fun c_92 => ?_)
            · refine lv_aload_n hx hb dX7_worked_141 rfl (lv_at hl 2 rfl) ?_
              refine xg_r hc hw 7 0 16 rfl rfl rfl rfl (by decide) (h7) ((hm 46 (by decide) (by decide)).2) mw_703 dX7_worked_142 ?_
              refine lv_iload_n hx hb dX7_worked_145 rfl (lv_at hl 4 rfl) ?_
              refine lv_iload hx hb dX7_worked_146 (lv_at hl 1 rfl) ?_
              refine lv_if_eq (tgt := 155) hx hb dX7_worked_148 (by decide) (fun c_148 => ?_) (fun c_148 => ?_)
              · refine lv_iconst (v := 2) hx hb dX7_worked_155 (by decide) ?_
                refine xa_st hc hw 46 0 bb rfl ((hm 46 (by decide) (by decide)).1) (rfl) (hbb) dX7_worked_156 (fun H locs hw => ?_)
                refine lv_aload_n hx hb dX7_worked_157 rfl (lv_at hl 2 rfl) ?_
                refine xg_r hc hw 7 0 17 rfl rfl rfl rfl (by decide) (h7) ((hm 47 (by decide) (by decide)).2) mw_704 dX7_worked_158 ?_
                refine lv_iload_n hx hb dX7_worked_161 rfl (lv_at hl 4 rfl) ?_
                refine lv_iload hx hb dX7_worked_162 (lv_at hl 1 rfl) ?_
                refine lv_if_eq (tgt := 171) hx hb dX7_worked_164 (by decide) (fun c_164 => ?_) (fun c_164 => ?_)
                · refine lv_iload_n hx hb dX7_worked_171 rfl (lv_at hl 5 rfl) ?_
                  refine xa_st hc hw 47 0 bb rfl ((hm 47 (by decide) (by decide)).1) (rfl) (hbb) dX7_worked_172 (fun H locs hw => ?_)
                  refine lv_aload_n hx hb dX7_worked_173 rfl (lv_at hl 2 rfl) ?_
                  refine xg_r hc hw 7 0 23 rfl rfl rfl rfl (by decide) (h7) ((hm 53 (by decide) (by decide)).2) mw_710 dX7_worked_174 ?_
                  refine lv_iload_n hx hb dX7_worked_177 rfl (lv_at hl 3 rfl) ?_
                  refine lv_dup2_11 hx hb dX7_worked_178 rfl rfl ?_
                  refine xa_ld hc hw 53 0 mm rfl ((hm 53 (by decide) (by decide)).1) (rfl) (hmm) dX7_worked_179 ?_
                  refine lv_iconst (v := 1) hx hb dX7_worked_180 (by decide) ?_
                  refine lv_iadd hx hb dX7_worked_181 ?_
                  refine xa_st hc hw 53 0 mm rfl ((hm 53 (by decide) (by decide)).1) (rfl) (hmm) dX7_worked_182 (fun H locs hw => ?_)
                  refine lv_iconst (v := 1) hx hb dX7_worked_183 (by decide) ?_
                  exact xr_i hc hlocks hr rfl hw (by simp only [q_X7_worked, m_wk, m_ok, m_brk]; simp_all [← Int32.not_le, x_up]) (Nat.le_of_ble_eq_true rfl) (Nat.le_of_ble_eq_true rfl) dX7_worked_184
                · exact absurd c_164 (by decide)
              · exact absurd c_148 (by decide)
            · refine lv_iload hx hb dX7_worked_95 (lv_at hl 0 rfl) ?_
              refine lv_bipush (v := 7) hx hb dX7_worked_97 (by decide) ?_
              refine lv_irem hx hb dX7_worked_99 (by decide) ?_
              refine lv_if_eq (tgt := 115) hx hb dX7_worked_100 (by decide) (fun c_100 => ?_) (fun c_100 => ?_)
              · refine lv_aload_n hx hb dX7_worked_115 rfl (lv_at hl 2 rfl) ?_
                refine xg_r hc hw 7 0 16 rfl rfl rfl rfl (by decide) (h7) ((hm 46 (by decide) (by decide)).2) mw_703 dX7_worked_116 ?_
                refine lv_iload_n hx hb dX7_worked_119 rfl (lv_at hl 4 rfl) ?_
                refine lv_iconst (v := 3) hx hb dX7_worked_120 (by decide) ?_
                refine xa_st hc hw 46 0 bb rfl ((hm 46 (by decide) (by decide)).1) (rfl) (hbb) dX7_worked_121 (fun H locs hw => ?_)
                refine lv_aload_n hx hb dX7_worked_122 rfl (lv_at hl 2 rfl) ?_
                refine xg_r hc hw 7 0 18 rfl rfl rfl rfl (by decide) (h7) ((hm 48 (by decide) (by decide)).2) mw_705 dX7_worked_123 ?_
                refine lv_iload_n hx hb dX7_worked_126 rfl (lv_at hl 4 rfl) ?_
                refine lv_iload_n hx hb dX7_worked_127 rfl (lv_at hl 3 rfl) ?_
                refine xa_st hc hw 48 0 bb rfl ((hm 48 (by decide) (by decide)).1) (rfl) (hbb) dX7_worked_128 (fun H locs hw => ?_)
                refine lv_aload_n hx hb dX7_worked_129 rfl (lv_at hl 2 rfl) ?_
                refine xg_r hc hw 7 0 24 rfl rfl rfl rfl (by decide) (h7) ((hm 54 (by decide) (by decide)).2) mw_711 dX7_worked_130 ?_
                refine lv_iload_n hx hb dX7_worked_133 rfl (lv_at hl 3 rfl) ?_
                refine lv_dup2_11 hx hb dX7_worked_134 rfl rfl ?_
                refine xa_ld hc hw 54 0 mm rfl ((hm 54 (by decide) (by decide)).1) (rfl) (hmm) dX7_worked_135 ?_
                refine lv_iconst (v := 1) hx hb dX7_worked_136 (by decide) ?_
                refine lv_iadd hx hb dX7_worked_137 ?_
                refine xa_st hc hw 54 0 mm rfl ((hm 54 (by decide) (by decide)).1) (rfl) (hmm) dX7_worked_138 (fun H locs hw => ?_)
                refine lv_iconst (v := 0) hx hb dX7_worked_139 (by decide) ?_
                exact xr_i hc hlocks hr rfl hw (by simp only [q_X7_worked, m_wk, m_ok, m_brk]; simp_all [← Int32.not_le, x_up]) (Nat.le_of_ble_eq_true rfl) (Nat.le_of_ble_eq_true rfl) dX7_worked_140
              · refine lv_iload hx hb dX7_worked_103 (lv_at hl 0 rfl) ?_
                refine lv_aload_n hx hb dX7_worked_105 rfl (lv_at hl 2 rfl) ?_
                refine xg_r hc hw 7 0 13 rfl rfl rfl rfl (by decide) (h7) ((hm 43 (by decide) (by decide)).2) mw_700 dX7_worked_106 ?_
                refine lv_iload_n hx hb dX7_worked_109 rfl (lv_at hl 4 rfl) ?_
                refine xa_ld hc hw 43 0 bb rfl ((hm 43 (by decide) (by decide)).1) (rfl) (hbb) dX7_worked_110 ?_
                refine lv_irem hx hb dX7_worked_111 (by simpa [x_up] using hth) ?_
                refine lv_if_ne (tgt := 141) hx hb dX7_worked_112 (by decide) (fun c_112 => ?_) (fun c_112 => ?_)
                · refine lv_aload_n hx hb dX7_worked_141 rfl (lv_at hl 2 rfl) ?_
                  refine xg_r hc hw 7 0 16 rfl rfl rfl rfl (by decide) (h7) ((hm 46 (by decide) (by decide)).2) mw_703 dX7_worked_142 ?_
                  refine lv_iload_n hx hb dX7_worked_145 rfl (lv_at hl 4 rfl) ?_
                  refine lv_iload hx hb dX7_worked_146 (lv_at hl 1 rfl) ?_
                  refine lv_if_eq (tgt := 155) hx hb dX7_worked_148 (by decide) (fun c_148 => ?_) (fun c_148 => ?_)
                  · refine lv_iconst (v := 2) hx hb dX7_worked_155 (by decide) ?_
                    refine xa_st hc hw 46 0 bb rfl ((hm 46 (by decide) (by decide)).1) (rfl) (hbb) dX7_worked_156 (fun H locs hw => ?_)
                    refine lv_aload_n hx hb dX7_worked_157 rfl (lv_at hl 2 rfl) ?_
                    refine xg_r hc hw 7 0 17 rfl rfl rfl rfl (by decide) (h7) ((hm 47 (by decide) (by decide)).2) mw_704 dX7_worked_158 ?_
                    refine lv_iload_n hx hb dX7_worked_161 rfl (lv_at hl 4 rfl) ?_
                    refine lv_iload hx hb dX7_worked_162 (lv_at hl 1 rfl) ?_
                    refine lv_if_eq (tgt := 171) hx hb dX7_worked_164 (by decide) (fun c_164 => ?_) (fun c_164 => ?_)
                    · refine lv_iload_n hx hb dX7_worked_171 rfl (lv_at hl 5 rfl) ?_
                      refine xa_st hc hw 47 0 bb rfl ((hm 47 (by decide) (by decide)).1) (rfl) (hbb) dX7_worked_172 (fun H locs hw => ?_)
                      refine lv_aload_n hx hb dX7_worked_173 rfl (lv_at hl 2 rfl) ?_
                      refine xg_r hc hw 7 0 23 rfl rfl rfl rfl (by decide) (h7) ((hm 53 (by decide) (by decide)).2) mw_710 dX7_worked_174 ?_
                      refine lv_iload_n hx hb dX7_worked_177 rfl (lv_at hl 3 rfl) ?_
                      refine lv_dup2_11 hx hb dX7_worked_178 rfl rfl ?_
                      refine xa_ld hc hw 53 0 mm rfl ((hm 53 (by decide) (by decide)).1) (rfl) (hmm) dX7_worked_179 ?_
                      refine lv_iconst (v := 1) hx hb dX7_worked_180 (by decide) ?_
                      refine lv_iadd hx hb dX7_worked_181 ?_
                      refine xa_st hc hw 53 0 mm rfl ((hm 53 (by decide) (by decide)).1) (rfl) (hmm) dX7_worked_182 (fun H locs hw => ?_)
                      refine lv_iconst (v := 1) hx hb dX7_worked_183 (by decide) ?_
                      exact xr_i hc hlocks hr rfl hw (by simp only [q_X7_worked, m_wk, m_ok, m_brk]; simp_all [← Int32.not_le, x_up]) (Nat.le_of_ble_eq_true rfl) (Nat.le_of_ble_eq_true rfl) dX7_worked_184
                    · exact absurd c_164 (by decide)
                  · exact absurd c_148 (by decide)
                · refine lv_aload_n hx hb dX7_worked_115 rfl (lv_at hl 2 rfl) ?_
                  refine xg_r hc hw 7 0 16 rfl rfl rfl rfl (by decide) (h7) ((hm 46 (by decide) (by decide)).2) mw_703 dX7_worked_116 ?_
                  refine lv_iload_n hx hb dX7_worked_119 rfl (lv_at hl 4 rfl) ?_
                  refine lv_iconst (v := 3) hx hb dX7_worked_120 (by decide) ?_
                  refine xa_st hc hw 46 0 bb rfl ((hm 46 (by decide) (by decide)).1) (rfl) (hbb) dX7_worked_121 (fun H locs hw => ?_)
                  refine lv_aload_n hx hb dX7_worked_122 rfl (lv_at hl 2 rfl) ?_
                  refine xg_r hc hw 7 0 18 rfl rfl rfl rfl (by decide) (h7) ((hm 48 (by decide) (by decide)).2) mw_705 dX7_worked_123 ?_
                  refine lv_iload_n hx hb dX7_worked_126 rfl (lv_at hl 4 rfl) ?_
                  refine lv_iload_n hx hb dX7_worked_127 rfl (lv_at hl 3 rfl) ?_
                  refine xa_st hc hw 48 0 bb rfl ((hm 48 (by decide) (by decide)).1) (rfl) (hbb) dX7_worked_128 (fun H locs hw => ?_)
                  refine lv_aload_n hx hb dX7_worked_129 rfl (lv_at hl 2 rfl) ?_
                  refine xg_r hc hw 7 0 24 rfl rfl rfl rfl (by decide) (h7) ((hm 54 (by decide) (by decide)).2) mw_711 dX7_worked_130 ?_
                  refine lv_iload_n hx hb dX7_worked_133 rfl (lv_at hl 3 rfl) ?_
                  refine lv_dup2_11 hx hb dX7_worked_134 rfl rfl ?_
                  refine xa_ld hc hw 54 0 mm rfl ((hm 54 (by decide) (by decide)).1) (rfl) (hmm) dX7_worked_135 ?_
                  refine lv_iconst (v := 1) hx hb dX7_worked_136 (by decide) ?_
                  refine lv_iadd hx hb dX7_worked_137 ?_
                  refine xa_st hc hw 54 0 mm rfl ((hm 54 (by decide) (by decide)).1) (rfl) (hmm) dX7_worked_138 (fun H locs hw => ?_)
                  refine lv_iconst (v := 0) hx hb dX7_worked_139 (by decide) ?_
                  exact xr_i hc hlocks hr rfl hw (by simp only [q_X7_worked, m_wk, m_ok, m_brk]; simp_all [← Int32.not_le, x_up]) (Nat.le_of_ble_eq_true rfl) (Nat.le_of_ble_eq_true rfl) dX7_worked_140
          · refine lv_iload_n hx hb dX7_worked_43 rfl (lv_at hl 4 rfl) ?_
            refine lv_iconst (v := 4) hx hb dX7_worked_44 (by decide) ?_
            refine lv_icmp_ne (tgt := 58) hx hb dX7_worked_45 (by decide) (fun c_45 => ?_) (fun c_45 => ?_)
            · refine lv_iconst (v := (-1)) hx hb dX7_worked_58 (by decide) ?_
              exact xr_i hc hlocks hr rfl hw (by simp only [q_X7_worked, m_wk, m_ok, m_brk]; simp_all [← Int32.not_le, x_up]) (Nat.le_of_ble_eq_true rfl) (Nat.le_of_ble_eq_true rfl) dX7_worked_59
            · refine lv_aload_n hx hb dX7_worked_48 rfl (lv_at hl 1 rfl) ?_
              refine xg_r hc hw 7 0 12 rfl rfl rfl rfl (by decide) (h7) ((hm 42 (by decide) (by decide)).2) mw_699 dX7_worked_49 ?_
              refine lv_iload_n hx hb dX7_worked_52 rfl (lv_at hl 3 rfl) ?_
              refine xa_ld hc hw 42 0 bb rfl ((hm 42 (by decide) (by decide)).1) (rfl) (hbb) dX7_worked_53 ?_
              refine lv_iconst (v := 1) hx hb dX7_worked_54 (by decide) ?_
              refine lv_icmp_ne (tgt := 60) hx hb dX7_worked_55 (by decide) (fun c_55 => ?_) (fun c_55 => ?_)
              · refine lv_aload_n hx hb dX7_worked_60 rfl (lv_at hl 1 rfl) ?_
                refine xg_r hc hw 7 0 21 rfl rfl rfl rfl (by decide) (h7) ((hm 51 (by decide) (by decide)).2) mw_708 dX7_worked_61 ?_
                refine lv_iload_n hx hb dX7_worked_64 rfl (lv_at hl 2 rfl) ?_
                refine lv_dup2_11 hx hb dX7_worked_65 rfl rfl ?_
                refine xa_ld hc hw 51 0 mm rfl ((hm 51 (by decide) (by decide)).1) (rfl) (hmm) dX7_worked_66 ?_
                refine lv_aload_n hx hb dX7_worked_67 rfl (lv_at hl 1 rfl) ?_
                refine xg_r hc hw 7 0 13 rfl rfl rfl rfl (by decide) (h7) ((hm 43 (by decide) (by decide)).2) mw_700 dX7_worked_68 ?_
                refine lv_iload_n hx hb dX7_worked_71 rfl (lv_at hl 3 rfl) ?_
                refine xa_ld hc hw 43 0 bb rfl ((hm 43 (by decide) (by decide)).1) (rfl) (hbb) dX7_worked_72 ?_
                refine lv_iadd hx hb dX7_worked_73 ?_
                refine xa_st hc hw 51 0 mm rfl ((hm 51 (by decide) (by decide)).1) (rfl) (hmm) dX7_worked_74 (fun H locs hw => ?_)
                refine lv_aload_n hx hb dX7_worked_75 rfl (lv_at hl 1 rfl) ?_
                refine xg_r hc hw 7 0 21 rfl rfl rfl rfl (by decide) (h7) ((hm 51 (by decide) (by decide)).2) mw_708 dX7_worked_76 ?_
                refine lv_iload_n hx hb dX7_worked_79 rfl (lv_at hl 2 rfl) ?_
                refine xa_ld hc hw 51 0 mm rfl ((hm 51 (by decide) (by decide)).1) (rfl) (hmm) dX7_worked_80 ?_
                refine lv_aload_n hx hb dX7_worked_81 rfl (lv_at hl 1 rfl) ?_
                refine xg_r hc hw 7 0 22 rfl rfl rfl rfl (by decide) (h7) ((hm 52 (by decide) (by decide)).2) mw_709 dX7_worked_82 ?_
                refine lv_iload_n hx hb dX7_worked_85 rfl (lv_at hl 2 rfl) ?_
                refine xa_ld hc hw 52 0 mm rfl ((hm 52 (by decide) (by decide)).1) (rfl) (hmm) dX7_worked_86 ?_
                refine lv_isub hx hb dX7_worked_87 ?_
                refine lv_topi (fun x5_88 ex5_88 => ?_)
                refine lv_istore (lv' := [(5, .int x5_88), (4, .int 0), (0, .ref (ad 7 0)), (1, .int (nI mm)), (2, .int (nI bb)), (3, .int h)]) hx hb dX7_worked_88 hl (by decide) rfl (fun ls hl => ?_)
                refine lv_iload hx hb dX7_worked_90 (lv_at hl 0 rfl) ?_
                refine lv_if_le (tgt := 141) hx hb dX7_worked_92 (by decide) (fun c_92 => ?_) (fun c_92 => ?_)
                · refine lv_aload_n hx hb dX7_worked_141 rfl (lv_at hl 2 rfl) ?_
                  refine xg_r hc hw 7 0 16 rfl rfl rfl rfl (by decide) (h7) ((hm 46 (by decide) (by decide)).2) mw_703 dX7_worked_142 ?_
                  refine lv_iload_n hx hb dX7_worked_145 rfl (lv_at hl 4 rfl) ?_
                  refine lv_iload hx hb dX7_worked_146 (lv_at hl 1 rfl) ?_
                  refine lv_if_eq (tgt := 155) hx hb dX7_worked_148 (by decide) (fun c_148 => ?_) (fun c_148 => ?_)
                  · refine lv_iconst (v := 2) hx hb dX7_worked_155 (by decide) ?_
                    refine xa_st hc hw 46 0 bb rfl ((hm 46 (by decide) (by decide)).1) (rfl) (hbb) dX7_worked_156 (fun H locs hw => ?_)
                    refine lv_aload_n hx hb dX7_worked_157 rfl (lv_at hl 2 rfl) ?_
                    refine xg_r hc hw 7 0 17 rfl rfl rfl rfl (by decide) (h7) ((hm 47 (by decide) (by decide)).2) mw_704 dX7_worked_158 ?_
                    refine lv_iload_n hx hb dX7_worked_161 rfl (lv_at hl 4 rfl) ?_
                    refine lv_iload hx hb dX7_worked_162 (lv_at hl 1 rfl) ?_
                    refine lv_if_eq (tgt := 171) hx hb dX7_worked_164 (by decide) (fun c_164 => ?_) (fun c_164 => ?_)
                    · refine lv_iload_n hx hb dX7_worked_171 rfl (lv_at hl 5 rfl) ?_
                      refine xa_st hc hw 47 0 bb rfl ((hm 47 (by decide) (by decide)).1) (rfl) (hbb) dX7_worked_172 (fun H locs hw => ?_)
                      refine lv_aload_n hx hb dX7_worked_173 rfl (lv_at hl 2 rfl) ?_
                      refine xg_r hc hw 7 0 23 rfl rfl rfl rfl (by decide) (h7) ((hm 53 (by decide) (by decide)).2) mw_710 dX7_worked_174 ?_
                      refine lv_iload_n hx hb dX7_worked_177 rfl (lv_at hl 3 rfl) ?_
                      refine lv_dup2_11 hx hb dX7_worked_178 rfl rfl ?_
                      refine xa_ld hc hw 53 0 mm rfl ((hm 53 (by decide) (by decide)).1) (rfl) (hmm) dX7_worked_179 ?_
                      refine lv_iconst (v := 1) hx hb dX7_worked_180 (by decide) ?_
                      refine lv_iadd hx hb dX7_worked_181 ?_
                      refine xa_st hc hw 53 0 mm rfl ((hm 53 (by decide) (by decide)).1) (rfl) (hmm) dX7_worked_182 (fun H locs hw => ?_)
                      refine lv_iconst (v := 1) hx hb dX7_worked_183 (by decide) ?_
                      exact xr_i hc hlocks hr rfl hw (by simp only [q_X7_worked, m_wk, m_ok, m_brk]; simp_all [← Int32.not_le, x_up]) (Nat.le_of_ble_eq_true rfl) (Nat.le_of_ble_eq_true rfl) dX7_worked_184
                    · exact absurd c_164 (by decide)
                  · exact absurd c_148 (by decide)
                · refine lv_iload hx hb dX7_worked_95 (lv_at hl 0 rfl) ?_
                  refine lv_bipush (v := 7) hx hb dX7_worked_97 (by decide) ?_
                  refine lv_irem hx hb dX7_worked_99 (by decide) ?_
                  refine lv_if_eq (tgt := 115) hx hb dX7_worked_100 (by decide) (fun c_100 => ?_) (fun c_100 => ?_)
                  · refine lv_aload_n hx hb dX7_worked_115 rfl (lv_at hl 2 rfl) ?_
                    refine xg_r hc hw 7 0 16 rfl rfl rfl rfl (by decide) (h7) ((hm 46 (by decide) (by decide)).2) mw_703 dX7_worked_116 ?_
                    refine lv_iload_n hx hb dX7_worked_119 rfl (lv_at hl 4 rfl) ?_
                    refine lv_iconst (v := 3) hx hb dX7_worked_120 (by decide) ?_
                    refine xa_st hc hw 46 0 bb rfl ((hm 46 (by decide) (by decide)).1) (rfl) (hbb) dX7_worked_121 (fun H locs hw => ?_)
                    refine lv_aload_n hx hb dX7_worked_122 rfl (lv_at hl 2 rfl) ?_
                    refine xg_r hc hw 7 0 18 rfl rfl rfl rfl (by decide) (h7) ((hm 48 (by decide) (by decide)).2) mw_705 dX7_worked_123 ?_
                    refine lv_iload_n hx hb dX7_worked_126 rfl (lv_at hl 4 rfl) ?_
                    refine lv_iload_n hx hb dX7_worked_127 rfl (lv_at hl 3 rfl) ?_
                    refine xa_st hc hw 48 0 bb rfl ((hm 48 (by decide) (by decide)).1) (rfl) (hbb) dX7_worked_128 (fun H locs hw => ?_)
                    refine lv_aload_n hx hb dX7_worked_129 rfl (lv_at hl 2 rfl) ?_
                    refine xg_r hc hw 7 0 24 rfl rfl rfl rfl (by decide) (h7) ((hm 54 (by decide) (by decide)).2) mw_711 dX7_worked_130 ?_
                    refine lv_iload_n hx hb dX7_worked_133 rfl (lv_at hl 3 rfl) ?_
                    refine lv_dup2_11 hx hb dX7_worked_134 rfl rfl ?_
                    refine xa_ld hc hw 54 0 mm rfl ((hm 54 (by decide) (by decide)).1) (rfl) (hmm) dX7_worked_135 ?_
                    refine lv_iconst (v := 1) hx hb dX7_worked_136 (by decide) ?_
                    refine lv_iadd hx hb dX7_worked_137 ?_
                    refine xa_st hc hw 54 0 mm rfl ((hm 54 (by decide) (by decide)).1) (rfl) (hmm) dX7_worked_138 (fun H locs hw => ?_)
                    refine lv_iconst (v := 0) hx hb dX7_worked_139 (by decide) ?_
                    exact xr_i hc hlocks hr rfl hw (by simp only [q_X7_worked, m_wk, m_ok, m_brk]; simp_all [← Int32.not_le, x_up]) (Nat.le_of_ble_eq_true rfl) (Nat.le_of_ble_eq_true rfl) dX7_worked_140
                  · refine lv_iload hx hb dX7_worked_103 (lv_at hl 0 rfl) ?_
                    refine lv_aload_n hx hb dX7_worked_105 rfl (lv_at hl 2 rfl) ?_
                    refine xg_r hc hw 7 0 13 rfl rfl rfl rfl (by decide) (h7) ((hm 43 (by decide) (by decide)).2) mw_700 dX7_worked_106 ?_
                    refine lv_iload_n hx hb dX7_worked_109 rfl (lv_at hl 4 rfl) ?_
                    refine xa_ld hc hw 43 0 bb rfl ((hm 43 (by decide) (by decide)).1) (rfl) (hbb) dX7_worked_110 ?_
                    refine lv_irem hx hb dX7_worked_111 (by simpa [x_up] using hth) ?_
                    refine lv_if_ne (tgt := 141) hx hb dX7_worked_112 (by decide) (fun c_112 => ?_) (fun c_112 => ?_)
                    · refine lv_aload_n hx hb dX7_worked_141 rfl (lv_at hl 2 rfl) ?_
                      refine xg_r hc hw 7 0 16 rfl rfl rfl rfl (by decide) (h7) ((hm 46 (by decide) (by decide)).2) mw_703 dX7_worked_142 ?_
                      refine lv_iload_n hx hb dX7_worked_145 rfl (lv_at hl 4 rfl) ?_
                      refine lv_iload hx hb dX7_worked_146 (lv_at hl 1 rfl) ?_
                      refine lv_if_eq (tgt := 155) hx hb dX7_worked_148 (by decide) (fun c_148 => ?_) (fun c_148 => ?_)
                      · refine lv_iconst (v := 2) hx hb dX7_worked_155 (by decide) ?_
                        refine xa_st hc hw 46 0 bb rfl ((hm 46 (by decide) (by decide)).1) (rfl) (hbb) dX7_worked_156 (fun H locs hw => ?_)
                        refine lv_aload_n hx hb dX7_worked_157 rfl (lv_at hl 2 rfl) ?_
                        refine xg_r hc hw 7 0 17 rfl rfl rfl rfl (by decide) (h7) ((hm 47 (by decide) (by decide)).2) mw_704 dX7_worked_158 ?_
                        refine lv_iload_n hx hb dX7_worked_161 rfl (lv_at hl 4 rfl) ?_
                        refine lv_iload hx hb dX7_worked_162 (lv_at hl 1 rfl) ?_
                        refine lv_if_eq (tgt := 171) hx hb dX7_worked_164 (by decide) (fun c_164 => ?_) (fun c_164 => ?_)
                        · refine lv_iload_n hx hb dX7_worked_171 rfl (lv_at hl 5 rfl) ?_
                          refine xa_st hc hw 47 0 bb rfl ((hm 47 (by decide) (by decide)).1) (rfl) (hbb) dX7_worked_172 (fun H locs hw => ?_)
                          refine lv_aload_n hx hb dX7_worked_173 rfl (lv_at hl 2 rfl) ?_
                          refine xg_r hc hw 7 0 23 rfl rfl rfl rfl (by decide) (h7) ((hm 53 (by decide) (by decide)).2) mw_710 dX7_worked_174 ?_
                          refine lv_iload_n hx hb dX7_worked_177 rfl (lv_at hl 3 rfl) ?_
                          refine lv_dup2_11 hx hb dX7_worked_178 rfl rfl ?_
                          refine xa_ld hc hw 53 0 mm rfl ((hm 53 (by decide) (by decide)).1) (rfl) (hmm) dX7_worked_179 ?_
                          refine lv_iconst (v := 1) hx hb dX7_worked_180 (by decide) ?_
                          refine lv_iadd hx hb dX7_worked_181 ?_
                          refine xa_st hc hw 53 0 mm rfl ((hm 53 (by decide) (by decide)).1) (rfl) (hmm) dX7_worked_182 (fun H locs hw => ?_)
                          refine lv_iconst (v := 1) hx hb dX7_worked_183 (by decide) ?_
                          exact xr_i hc hlocks hr rfl hw (by simp only [q_X7_worked, m_wk, m_ok, m_brk]; simp_all [← Int32.not_le, x_up]) (Nat.le_of_ble_eq_true rfl) (Nat.le_of_ble_eq_true rfl) dX7_worked_184
                        · exact absurd c_164 (by decide)
                      · exact absurd c_148 (by decide)
                    · refine lv_aload_n hx hb dX7_worked_115 rfl (lv_at hl 2 rfl) ?_
                      refine xg_r hc hw 7 0 16 rfl rfl rfl rfl (by decide) (h7) ((hm 46 (by decide) (by decide)).2) mw_703 dX7_worked_116 ?_
                      refine lv_iload_n hx hb dX7_worked_119 rfl (lv_at hl 4 rfl) ?_
                      refine lv_iconst (v := 3) hx hb dX7_worked_120 (by decide) ?_
                      refine xa_st hc hw 46 0 bb rfl ((hm 46 (by decide) (by decide)).1) (rfl) (hbb) dX7_worked_121 (fun H locs hw => ?_)
                      refine lv_aload_n hx hb dX7_worked_122 rfl (lv_at hl 2 rfl) ?_
                      refine xg_r hc hw 7 0 18 rfl rfl rfl rfl (by decide) (h7) ((hm 48 (by decide) (by decide)).2) mw_705 dX7_worked_123 ?_
                      refine lv_iload_n hx hb dX7_worked_126 rfl (lv_at hl 4 rfl) ?_
                      refine lv_iload_n hx hb dX7_worked_127 rfl (lv_at hl 3 rfl) ?_
                      refine xa_st hc hw 48 0 bb rfl ((hm 48 (by decide) (by decide)).1) (rfl) (hbb) dX7_worked_128 (fun H locs hw => ?_)
                      refine lv_aload_n hx hb dX7_worked_129 rfl (lv_at hl 2 rfl) ?_
                      refine xg_r hc hw 7 0 24 rfl rfl rfl rfl (by decide) (h7) ((hm 54 (by decide) (by decide)).2) mw_711 dX7_worked_130 ?_
                      refine lv_iload_n hx hb dX7_worked_133 rfl (lv_at hl 3 rfl) ?_
                      refine lv_dup2_11 hx hb dX7_worked_134 rfl rfl ?_
                      refine xa_ld hc hw 54 0 mm rfl ((hm 54 (by decide) (by decide)).1) (rfl) (hmm) dX7_worked_135 ?_
                      refine lv_iconst (v := 1) hx hb dX7_worked_136 (by decide) ?_
                      refine lv_iadd hx hb dX7_worked_137 ?_
                      refine xa_st hc hw 54 0 mm rfl ((hm 54 (by decide) (by decide)).1) (rfl) (hmm) dX7_worked_138 (fun H locs hw => ?_)
                      refine lv_iconst (v := 0) hx hb dX7_worked_139 (by decide) ?_
                      exact xr_i hc hlocks hr rfl hw (by simp only [q_X7_worked, m_wk, m_ok, m_brk]; simp_all [← Int32.not_le, x_up]) (Nat.le_of_ble_eq_true rfl) (Nat.le_of_ble_eq_true rfl) dX7_worked_140
              · refine lv_iconst (v := (-1)) hx hb dX7_worked_58 (by decide) ?_
                exact xr_i hc hlocks hr rfl hw (by simp only [q_X7_worked, m_wk, m_ok, m_brk]; simp_all [← Int32.not_le, x_up]) (Nat.le_of_ble_eq_true rfl) (Nat.le_of_ble_eq_true rfl) dX7_worked_59
      · refine lv_iconst (v := (-1)) hx hb dX7_worked_31 (by decide) ?_
        exact xr_i hc hlocks hr rfl hw (by simp only [q_X7_worked, m_wk, m_ok, m_brk]; simp_all [← Int32.not_le, x_up]) (Nat.le_of_ble_eq_true rfl) (Nat.le_of_ble_eq_true rfl) dX7_worked_32
    · exact absurd c_20 (by decide)
  · refine lv_iconst (v := 1) hx hb dX7_worked_5 (by decide) ?_
    refine lv_goto (tgt := 10) hx hb dX7_worked_6 (by decide) ?_
    refine lv_istore (lv' := [(4, .int 1), (0, .ref (ad 7 0)), (1, .int (nI mm)), (2, .int (nI bb)), (3, .int h)]) hx hb dX7_worked_10 hl (by decide) rfl (fun ls hl => ?_)
    refine lv_aload_n hx hb dX7_worked_12 rfl (lv_at hl 1 rfl) ?_
    refine xg_r hc hw 7 0 16 rfl rfl rfl rfl (by decide) (h7) ((hm 46 (by decide) (by decide)).2) mw_703 dX7_worked_13 ?_
    refine lv_iload_n hx hb dX7_worked_16 rfl (lv_at hl 3 rfl) ?_
    refine xa_ld hc hw 46 0 bb rfl ((hm 46 (by decide) (by decide)).1) (rfl) (hbb) dX7_worked_17 ?_
    refine lv_iload hx hb dX7_worked_18 (lv_at hl 0 rfl) ?_
    refine lv_if_eq (tgt := 27) hx hb dX7_worked_20 (by decide) (fun c_20 => ?_) (fun c_20 => ?_)
    · exact absurd c_20 (by decide)
    · refine lv_iconst (v := 0) hx hb dX7_worked_23 (by decide) ?_
      refine lv_goto (tgt := 28) hx hb dX7_worked_24 (by decide) ?_
      refine lv_icmp_eq (tgt := 33) hx hb dX7_worked_28 (by decide) (fun c_28 => ?_) (fun c_28 => ?_)
      · refine lv_iload hx hb dX7_worked_33 (lv_at hl 0 rfl) ?_
        refine lv_if_ne (tgt := 60) hx hb dX7_worked_35 (by decide) (fun c_35 => ?_) (fun c_35 => ?_)
        · refine lv_aload_n hx hb dX7_worked_60 rfl (lv_at hl 1 rfl) ?_
          refine xg_r hc hw 7 0 21 rfl rfl rfl rfl (by decide) (h7) ((hm 51 (by decide) (by decide)).2) mw_708 dX7_worked_61 ?_
          refine lv_iload_n hx hb dX7_worked_64 rfl (lv_at hl 2 rfl) ?_
          refine lv_dup2_11 hx hb dX7_worked_65 rfl rfl ?_
          refine xa_ld hc hw 51 0 mm rfl ((hm 51 (by decide) (by decide)).1) (rfl) (hmm) dX7_worked_66 ?_
          refine lv_aload_n hx hb dX7_worked_67 rfl (lv_at hl 1 rfl) ?_
          refine xg_r hc hw 7 0 13 rfl rfl rfl rfl (by decide) (h7) ((hm 43 (by decide) (by decide)).2) mw_700 dX7_worked_68 ?_
          refine lv_iload_n hx hb dX7_worked_71 rfl (lv_at hl 3 rfl) ?_
          refine xa_ld hc hw 43 0 bb rfl ((hm 43 (by decide) (by decide)).1) (rfl) (hbb) dX7_worked_72 ?_
          refine lv_iadd hx hb dX7_worked_73 ?_
          refine xa_st hc hw 51 0 mm rfl ((hm 51 (by decide) (by decide)).1) (rfl) (hmm) dX7_worked_74 (fun H locs hw => ?_)
          refine lv_aload_n hx hb dX7_worked_75 rfl (lv_at hl 1 rfl) ?_
          refine xg_r hc hw 7 0 21 rfl rfl rfl rfl (by decide) (h7) ((hm 51 (by decide) (by decide)).2) mw_708 dX7_worked_76 ?_
          refine lv_iload_n hx hb dX7_worked_79 rfl (lv_at hl 2 rfl) ?_
          refine xa_ld hc hw 51 0 mm rfl ((hm 51 (by decide) (by decide)).1) (rfl) (hmm) dX7_worked_80 ?_
          refine lv_aload_n hx hb dX7_worked_81 rfl (lv_at hl 1 rfl) ?_
          refine xg_r hc hw 7 0 22 rfl rfl rfl rfl (by decide) (h7) ((hm 52 (by decide) (by decide)).2) mw_709 dX7_worked_82 ?_
          refine lv_iload_n hx hb dX7_worked_85 rfl (lv_at hl 2 rfl) ?_
          refine xa_ld hc hw 52 0 mm rfl ((hm 52 (by decide) (by decide)).1) (rfl) (hmm) dX7_worked_86 ?_
          refine lv_isub hx hb dX7_worked_87 ?_
          refine lv_topi (fun x5_88 ex5_88 => ?_)
          refine lv_istore (lv' := [(5, .int x5_88), (4, .int 1), (0, .ref (ad 7 0)), (1, .int (nI mm)), (2, .int (nI bb)), (3, .int h)]) hx hb dX7_worked_88 hl (by decide) rfl (fun ls hl => ?_)
          refine lv_iload hx hb dX7_worked_90 (lv_at hl 0 rfl) ?_
          refine lv_if_le (tgt := 141) hx hb dX7_worked_92 (by decide) (fun c_92 => ?_) (fun c_92 => ?_)
          · refine lv_aload_n hx hb dX7_worked_141 rfl (lv_at hl 2 rfl) ?_
            refine xg_r hc hw 7 0 16 rfl rfl rfl rfl (by decide) (h7) ((hm 46 (by decide) (by decide)).2) mw_703 dX7_worked_142 ?_
            refine lv_iload_n hx hb dX7_worked_145 rfl (lv_at hl 4 rfl) ?_
            refine lv_iload hx hb dX7_worked_146 (lv_at hl 1 rfl) ?_
            refine lv_if_eq (tgt := 155) hx hb dX7_worked_148 (by decide) (fun c_148 => ?_) (fun c_148 => ?_)
            · exact absurd c_148 (by decide)
            · refine lv_iconst (v := 1) hx hb dX7_worked_151 (by decide) ?_
              refine lv_goto (tgt := 156) hx hb dX7_worked_152 (by decide) ?_
              refine xa_st hc hw 46 0 bb rfl ((hm 46 (by decide) (by decide)).1) (rfl) (hbb) dX7_worked_156 (fun H locs hw => ?_)
              refine lv_aload_n hx hb dX7_worked_157 rfl (lv_at hl 2 rfl) ?_
              refine xg_r hc hw 7 0 17 rfl rfl rfl rfl (by decide) (h7) ((hm 47 (by decide) (by decide)).2) mw_704 dX7_worked_158 ?_
              refine lv_iload_n hx hb dX7_worked_161 rfl (lv_at hl 4 rfl) ?_
              refine lv_iload hx hb dX7_worked_162 (lv_at hl 1 rfl) ?_
              refine lv_if_eq (tgt := 171) hx hb dX7_worked_164 (by decide) (fun c_164 => ?_) (fun c_164 => ?_)
              · exact absurd c_164 (by decide)
              · refine lv_iconst (v := 0) hx hb dX7_worked_167 (by decide) ?_
                refine lv_goto (tgt := 172) hx hb dX7_worked_168 (by decide) ?_
                refine xa_st hc hw 47 0 bb rfl ((hm 47 (by decide) (by decide)).1) (rfl) (hbb) dX7_worked_172 (fun H locs hw => ?_)
                refine lv_aload_n hx hb dX7_worked_173 rfl (lv_at hl 2 rfl) ?_
                refine xg_r hc hw 7 0 23 rfl rfl rfl rfl (by decide) (h7) ((hm 53 (by decide) (by decide)).2) mw_710 dX7_worked_174 ?_
                refine lv_iload_n hx hb dX7_worked_177 rfl (lv_at hl 3 rfl) ?_
                refine lv_dup2_11 hx hb dX7_worked_178 rfl rfl ?_
                refine xa_ld hc hw 53 0 mm rfl ((hm 53 (by decide) (by decide)).1) (rfl) (hmm) dX7_worked_179 ?_
                refine lv_iconst (v := 1) hx hb dX7_worked_180 (by decide) ?_
                refine lv_iadd hx hb dX7_worked_181 ?_
                refine xa_st hc hw 53 0 mm rfl ((hm 53 (by decide) (by decide)).1) (rfl) (hmm) dX7_worked_182 (fun H locs hw => ?_)
                refine lv_iconst (v := 1) hx hb dX7_worked_183 (by decide) ?_
                exact xr_i hc hlocks hr rfl hw (by simp only [q_X7_worked, m_wk, m_ok, m_brk]; simp_all [← Int32.not_le, x_up]) (Nat.le_of_ble_eq_true rfl) (Nat.le_of_ble_eq_true rfl) dX7_worked_184
          · refine lv_iload hx hb dX7_worked_95 (lv_at hl 0 rfl) ?_
            refine lv_bipush (v := 7) hx hb dX7_worked_97 (by decide) ?_
            refine lv_irem hx hb dX7_worked_99 (by decide) ?_
            refine lv_if_eq (tgt := 115) hx hb dX7_worked_100 (by decide) (fun c_100 => ?_) (fun c_100 => ?_)
            · refine lv_aload_n hx hb dX7_worked_115 rfl (lv_at hl 2 rfl) ?_
              refine xg_r hc hw 7 0 16 rfl rfl rfl rfl (by decide) (h7) ((hm 46 (by decide) (by decide)).2) mw_703 dX7_worked_116 ?_
              refine lv_iload_n hx hb dX7_worked_119 rfl (lv_at hl 4 rfl) ?_
              refine lv_iconst (v := 3) hx hb dX7_worked_120 (by decide) ?_
              refine xa_st hc hw 46 0 bb rfl ((hm 46 (by decide) (by decide)).1) (rfl) (hbb) dX7_worked_121 (fun H locs hw => ?_)
              refine lv_aload_n hx hb dX7_worked_122 rfl (lv_at hl 2 rfl) ?_
              refine xg_r hc hw 7 0 18 rfl rfl rfl rfl (by decide) (h7) ((hm 48 (by decide) (by decide)).2) mw_705 dX7_worked_123 ?_
              refine lv_iload_n hx hb dX7_worked_126 rfl (lv_at hl 4 rfl) ?_
              refine lv_iload_n hx hb dX7_worked_127 rfl (lv_at hl 3 rfl) ?_
              refine xa_st hc hw 48 0 bb rfl ((hm 48 (by decide) (by decide)).1) (rfl) (hbb) dX7_worked_128 (fun H locs hw => ?_)
              refine lv_aload_n hx hb dX7_worked_129 rfl (lv_at hl 2 rfl) ?_
              refine xg_r hc hw 7 0 24 rfl rfl rfl rfl (by decide) (h7) ((hm 54 (by decide) (by decide)).2) mw_711 dX7_worked_130 ?_
              refine lv_iload_n hx hb dX7_worked_133 rfl (lv_at hl 3 rfl) ?_
              refine lv_dup2_11 hx hb dX7_worked_134 rfl rfl ?_
              refine xa_ld hc hw 54 0 mm rfl ((hm 54 (by decide) (by decide)).1) (rfl) (hmm) dX7_worked_135 ?_
              refine lv_iconst (v := 1) hx hb dX7_worked_136 (by decide) ?_
              refine lv_iadd hx hb dX7_worked_137 ?_
              refine xa_st hc hw 54 0 mm rfl ((hm 54 (by decide) (by decide)).1) (rfl) (hmm) dX7_worked_138 (fun H locs hw => ?_)
              refine lv_iconst (v := 0) hx hb dX7_worked_139 (by decide) ?_
              exact xr_i hc hlocks hr rfl hw (by simp only [q_X7_worked, m_wk, m_ok, m_brk]; simp_all [← Int32.not_le, x_up]) (Nat.le_of_ble_eq_true rfl) (Nat.le_of_ble_eq_true rfl) dX7_worked_140
            · refine lv_iload hx hb dX7_worked_103 (lv_at hl 0 rfl) ?_
              refine lv_aload_n hx hb dX7_worked_105 rfl (lv_at hl 2 rfl) ?_
              refine xg_r hc hw 7 0 13 rfl rfl rfl rfl (by decide) (h7) ((hm 43 (by decide) (by decide)).2) mw_700 dX7_worked_106 ?_
              refine lv_iload_n hx hb dX7_worked_109 rfl (lv_at hl 4 rfl) ?_
              refine xa_ld hc hw 43 0 bb rfl ((hm 43 (by decide) (by decide)).1) (rfl) (hbb) dX7_worked_110 ?_
              refine lv_irem hx hb dX7_worked_111 (by simpa [x_up] using hth) ?_
              refine lv_if_ne (tgt := 141) hx hb dX7_worked_112 (by decide) (fun c_112 => ?_) (fun c_112 => ?_)
              · refine lv_aload_n hx hb dX7_worked_141 rfl (lv_at hl 2 rfl) ?_
                refine xg_r hc hw 7 0 16 rfl rfl rfl rfl (by decide) (h7) ((hm 46 (by decide) (by decide)).2) mw_703 dX7_worked_142 ?_
                refine lv_iload_n hx hb dX7_worked_145 rfl (lv_at hl 4 rfl) ?_
                refine lv_iload hx hb dX7_worked_146 (lv_at hl 1 rfl) ?_
                refine lv_if_eq (tgt := 155) hx hb dX7_worked_148 (by decide) (fun c_148 => ?_) (fun c_148 => ?_)
                · exact absurd c_148 (by decide)
                · refine lv_iconst (v := 1) hx hb dX7_worked_151 (by decide) ?_
                  refine lv_goto (tgt := 156) hx hb dX7_worked_152 (by decide) ?_
                  refine xa_st hc hw 46 0 bb rfl ((hm 46 (by decide) (by decide)).1) (rfl) (hbb) dX7_worked_156 (fun H locs hw => ?_)
                  refine lv_aload_n hx hb dX7_worked_157 rfl (lv_at hl 2 rfl) ?_
                  refine xg_r hc hw 7 0 17 rfl rfl rfl rfl (by decide) (h7) ((hm 47 (by decide) (by decide)).2) mw_704 dX7_worked_158 ?_
                  refine lv_iload_n hx hb dX7_worked_161 rfl (lv_at hl 4 rfl) ?_
                  refine lv_iload hx hb dX7_worked_162 (lv_at hl 1 rfl) ?_
                  refine lv_if_eq (tgt := 171) hx hb dX7_worked_164 (by decide) (fun c_164 => ?_) (fun c_164 => ?_)
                  · exact absurd c_164 (by decide)
                  · refine lv_iconst (v := 0) hx hb dX7_worked_167 (by decide) ?_
                    refine lv_goto (tgt := 172) hx hb dX7_worked_168 (by decide) ?_
                    refine xa_st hc hw 47 0 bb rfl ((hm 47 (by decide) (by decide)).1) (rfl) (hbb) dX7_worked_172 (fun H locs hw => ?_)
                    refine lv_aload_n hx hb dX7_worked_173 rfl (lv_at hl 2 rfl) ?_
                    refine xg_r hc hw 7 0 23 rfl rfl rfl rfl (by decide) (h7) ((hm 53 (by decide) (by decide)).2) mw_710 dX7_worked_174 ?_
                    refine lv_iload_n hx hb dX7_worked_177 rfl (lv_at hl 3 rfl) ?_
                    refine lv_dup2_11 hx hb dX7_worked_178 rfl rfl ?_
                    refine xa_ld hc hw 53 0 mm rfl ((hm 53 (by decide) (by decide)).1) (rfl) (hmm) dX7_worked_179 ?_
                    refine lv_iconst (v := 1) hx hb dX7_worked_180 (by decide) ?_
                    refine lv_iadd hx hb dX7_worked_181 ?_
                    refine xa_st hc hw 53 0 mm rfl ((hm 53 (by decide) (by decide)).1) (rfl) (hmm) dX7_worked_182 (fun H locs hw => ?_)
                    refine lv_iconst (v := 1) hx hb dX7_worked_183 (by decide) ?_
                    exact xr_i hc hlocks hr rfl hw (by simp only [q_X7_worked, m_wk, m_ok, m_brk]; simp_all [← Int32.not_le, x_up]) (Nat.le_of_ble_eq_true rfl) (Nat.le_of_ble_eq_true rfl) dX7_worked_184
              · refine lv_aload_n hx hb dX7_worked_115 rfl (lv_at hl 2 rfl) ?_
                refine xg_r hc hw 7 0 16 rfl rfl rfl rfl (by decide) (h7) ((hm 46 (by decide) (by decide)).2) mw_703 dX7_worked_116 ?_
                refine lv_iload_n hx hb dX7_worked_119 rfl (lv_at hl 4 rfl) ?_
                refine lv_iconst (v := 3) hx hb dX7_worked_120 (by decide) ?_
                refine xa_st hc hw 46 0 bb rfl ((hm 46 (by decide) (by decide)).1) (rfl) (hbb) dX7_worked_121 (fun H locs hw => ?_)
                refine lv_aload_n hx hb dX7_worked_122 rfl (lv_at hl 2 rfl) ?_
                refine xg_r hc hw 7 0 18 rfl rfl rfl rfl (by decide) (h7) ((hm 48 (by decide) (by decide)).2) mw_705 dX7_worked_123 ?_
                refine lv_iload_n hx hb dX7_worked_126 rfl (lv_at hl 4 rfl) ?_
                refine lv_iload_n hx hb dX7_worked_127 rfl (lv_at hl 3 rfl) ?_
                refine xa_st hc hw 48 0 bb rfl ((hm 48 (by decide) (by decide)).1) (rfl) (hbb) dX7_worked_128 (fun H locs hw => ?_)
                refine lv_aload_n hx hb dX7_worked_129 rfl (lv_at hl 2 rfl) ?_
                refine xg_r hc hw 7 0 24 rfl rfl rfl rfl (by decide) (h7) ((hm 54 (by decide) (by decide)).2) mw_711 dX7_worked_130 ?_
                refine lv_iload_n hx hb dX7_worked_133 rfl (lv_at hl 3 rfl) ?_
                refine lv_dup2_11 hx hb dX7_worked_134 rfl rfl ?_
                refine xa_ld hc hw 54 0 mm rfl ((hm 54 (by decide) (by decide)).1) (rfl) (hmm) dX7_worked_135 ?_
                refine lv_iconst (v := 1) hx hb dX7_worked_136 (by decide) ?_
                refine lv_iadd hx hb dX7_worked_137 ?_
                refine xa_st hc hw 54 0 mm rfl ((hm 54 (by decide) (by decide)).1) (rfl) (hmm) dX7_worked_138 (fun H locs hw => ?_)
                refine lv_iconst (v := 0) hx hb dX7_worked_139 (by decide) ?_
                exact xr_i hc hlocks hr rfl hw (by simp only [q_X7_worked, m_wk, m_ok, m_brk]; simp_all [← Int32.not_le, x_up]) (Nat.le_of_ble_eq_true rfl) (Nat.le_of_ble_eq_true rfl) dX7_worked_140
        · exact absurd c_35 (by decide)
      · refine lv_iconst (v := (-1)) hx hb dX7_worked_31 (by decide) ?_
        exact xr_i hc hlocks hr rfl hw (by simp only [q_X7_worked, m_wk, m_ok, m_brk]; simp_all [← Int32.not_le, x_up]) (Nat.le_of_ble_eq_true rfl) (Nat.le_of_ble_eq_true rfl) dX7_worked_32
