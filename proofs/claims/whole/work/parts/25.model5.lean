theorem m_cnt_t (σ : x_St) (v w : Int32) (k : Nat) : m_cnt (x_up σ 7 0 0 w) v k = m_cnt σ v k := by
  induction k with
  | zero => rfl
  | succ k ih => rw [m_cnt, m_cnt, ih]; simp [x_up]
theorem x_eq6 {b : Int32} (h : b < 0 ∨ nI 6 ≤ b) (h1 : 0 ≤ b) (h2 : b ≤ 6) : b = nI 6 := by
  rcases h with h | h
  · exact absurd h1 (Int32.not_le.mpr h)
  · exact Int32.le_antisymm h2 h
theorem x_n30 {n : Nat} (h : nI n = 30) (hn : n ≤ 30) : n = 30 := by
  rw [show (30 : Int32) = nI 30 from rfl] at h
  exact (nI_eq (by omega) (by decide)).mp h
theorem x_lt30 {x : Int32} {n : Nat} (hx : x = nI n) (hn : n ≤ 30) (h : ¬ x = 30) : n < 30 := by
  rcases Nat.lt_or_ge n 30 with q | q
  · exact q
  · exact absurd (by rw [hx, show n = 30 by omega]; rfl) h
theorem x_p1 (n : Nat) : nI n + 1 - 1 = nI n := by rw [nI_1, nI_pred]
def m_ord (σ : x_St) (a b d e1 f g1 h : Int32) (nO : Nat) : x_St :=
  x_up (x_up (x_up (x_up (x_up (x_up (x_up (x_up (x_up (x_up σ 7 0 0 0) 60 0 nO a) 61 0 nO b) 62 0 nO d) 63 0 nO e1) 64 0 nO f) 65 0 nO g1) 66 0 nO h) 67 0 nO (-1)) 7 0 4 (nI (nO + 1))

/-- X7_count -/
def q_X7_count (σ : x_St) (a : Int32) (nB : Nat) : Int32 → x_St → Prop := fun r σ' => σ' = x_up σ 7 0 0 (if (0 ≤ a ∧ a ≤ 6) then 0 else 1) ∧ ((0 ≤ a ∧ a ≤ 6) → r = if a = 0 then σ 7 0 1 else if a = 1 then σ 7 0 2 else if a = 2 then σ 7 0 3 else if a = 3 then σ 7 0 4 else if a = 4 then nI (m_cnt σ 3 nB) else if a = 5 then nI (m_cnt σ 4 nB) else σ 7 0 5)
set_option maxHeartbeats 4000000 in
set_option maxRecDepth 100000 in
theorem c_X7_count {l : Launch} {D : va_G} {cs : Nat → ClassId} {base : Nat} {ad : Nat → Nat → Nat} {n st : Nat → Nat} {σ : x_St} (a : Int32) (nB : Nat) (hB : σ 7 0 2 = nI nB) (hB0 : nB ≤ 400) (h7 : 0 < n 7) (hm : ∀ k, 36 ≤ k → k < 70 → 0 < n k ∧ 0 < st (100 + k)) : x_Ci l yX7_count cX7_count 2 (some .int) 4 0 0 D cs base ad n st σ [.ref (ad 7 0), .int a] (q_X7_count σ a nB) (fun σ' => x_U D cs base ad n st σ') := by
  refine Met.ofW (cc := cX7_count) (maxL := 2) (ret := some .int) (by decide) rfl ?_
  intro p e s m args below meth c s₁ B hml hv
  obtain ⟨rfl, hU⟩ := hv
  have hx := B.exec
  have hb := B.bytes
  have hr := B.returns
  have hts := atoms_spec (ws := Cond.code yX7_count cX7_count 2 (some .int) :: Tw) B.pre
  have hown : s.vm.findClass RX7 = some m.cls := findClass_of_methodNamed B.named
  have hlocks := B.notSynchronized
  have hc : CallFix p m c cX7_count 2 s (([.ref (ad 7 0), .int a] : List Value).toArray) Tw RX7 := ⟨hx, hb, hml, hown, fun w hw => hts w (List.mem_cons_of_mem _ hw)⟩
  have hw := x_B.start hU
  have hl := lv_entry ([.ref (ad 7 0), .int a]) (n := 2) (Nat.le_of_ble_eq_true rfl)
  rw [lg_entry_eq]
  generalize (lg_sl ([.ref (ad 7 0), .int a]) ++ List.replicate (2 - (lg_sl ([.ref (ad 7 0), .int a])).length) Slot.unset).toArray = ls at hl ⊢
  have hl : lv_has ls 2 [(0, .ref (ad 7 0)), (1, .int a)] := hl
  show W p l e (x_rm 4 0 0) s m ([.ref (ad 7 0), .int a] : List Value).toArray below meth c s.heap [] 0 0 (MQ below (va_Qi (q_X7_count σ a nB) (fun σ' => x_U D cs base ad n st σ') (x_A base)) ([.ref (ad 7 0), .int a] : List Value).toArray s 0 0 (x_A base)) (F0 m 0 ls [])
  refine lv_aload_n hx hb dX7_count_0 rfl (lv_at hl 0 rfl) ?_
  refine lv_iconst (v := 0) hx hb dX7_count_1 (by decide) ?_
  refine xp_i hc hw 7 0 0 rfl rfl rfl rfl (by decide) (h7) rfl (ty := .int) (by decide +kernel) rfl rfl mw_687 dX7_count_2 (fun H locs hw => ?_)
  have cut_21 : ∀ (f : Int32), (f = if (0 ≤ a ∧ a ≤ 6) then 1 else 0) → ∀ (H : Heap) (locs : List Loc) (ls : Array Slot), lv_has ls 2 [(0, .ref (ad 7 0)), (1, .int a)] → x_B D cs base ad n st (x_up σ 7 0 0 0) s H locs → W p l e (x_rm 4 0 0) s m ([.ref (ad 7 0), .int a] : List Value).toArray below meth c H locs 0 0 (MQ below (va_Qi (q_X7_count σ a nB) (fun σ' => x_U D cs base ad n st σ') (x_A base)) ([.ref (ad 7 0), .int a] : List Value).toArray s 0 0 (x_A base)) (F0 m 21 ls [.int f, .ref (ad 7 0)]) := by
    intro f hf H locs ls hl hw
    refine lv_iconst (v := 1) hx hb dX7_count_21 (by decide) ?_
    refine xc_Vi hc hw 7 0 (c_X7_right f 1 h7 hm) rfl rfl (h7) mw_834 mw_831 mw_4 mw_833 mp_20 xd_X7_right ⟨by decide, by decide⟩ (rfl) hl.1 (Nat.le_of_ble_eq_true rfl) dX7_count_22 ⟨Nat.le_of_ble_eq_true rfl, Nat.le_of_ble_eq_true rfl⟩ (fun r_22 σ_22 H locs hq hw => ?_)
    have hq_22 := hq
    obtain ⟨hr_22, hσ_22⟩ := x_right hq_22 x_up_s hf (by decide)
    rw [x_up_up] at hσ_22
    refine lv_if_ne (tgt := 30) hx hb dX7_count_25 (by decide) (fun c_25 => ?_) (fun c_25 => ?_)
    · have hP := x_if1 hr_22 c_25
      have hB1 : σ_22 7 0 2 = nI nB := by rw [hσ_22]; simpa [x_up] using hB
      refine lv_iload_n hx hb dX7_count_30 rfl (lv_at hl 1 rfl) ?_
      rcases x_sw a 6 (by decide) with hsw | ⟨jsw, hjsw, hsw⟩
      · refine lv_tableOut (tgt := 100) hx hb dX7_count_31 (x_swo hsw) (by decide) ?_
        refine lv_aload_n hx hb dX7_count_100 rfl (lv_at hl 0 rfl) ?_
        refine xg_i hc hw 7 0 5 rfl rfl rfl rfl (by decide) (h7) mw_692 dX7_count_101 ?_
        exact xr_i hc hlocks hr rfl hw (⟨hσ_22, fun _ => by rw [x_eq6 hsw hP.1 hP.2, hσ_22]; simp [x_up]; rfl⟩) (Nat.le_of_ble_eq_true rfl) (Nat.le_of_ble_eq_true rfl) dX7_count_104
      · rcases (by omega : jsw = 0 ∨ jsw = 1 ∨ jsw = 2 ∨ jsw = 3 ∨ jsw = 4 ∨ jsw = 5) with rfl | rfl | rfl | rfl | rfl | rfl
        · refine lv_tableIn (tgt := 68) (off := 37) hx hb dX7_count_31 (x_swl hsw) (x_swh hsw (by decide)) (by rw [x_swn hsw (by decide)]; rfl) (by decide) ?_
          refine lv_aload_n hx hb dX7_count_68 rfl (lv_at hl 0 rfl) ?_
          refine xg_i hc hw 7 0 1 rfl rfl rfl rfl (by decide) (h7) mw_688 dX7_count_69 ?_
          exact xr_i hc hlocks hr rfl hw (⟨hσ_22, fun _ => by rw [hsw, hσ_22]; simp [x_up]; exact fun h => absurd rfl h⟩) (Nat.le_of_ble_eq_true rfl) (Nat.le_of_ble_eq_true rfl) dX7_count_72
        · refine lv_tableIn (tgt := 73) (off := 42) hx hb dX7_count_31 (x_swl hsw) (x_swh hsw (by decide)) (by rw [x_swn hsw (by decide)]; rfl) (by decide) ?_
          refine lv_aload_n hx hb dX7_count_73 rfl (lv_at hl 0 rfl) ?_
          refine xg_i hc hw 7 0 2 rfl rfl rfl rfl (by decide) (h7) mw_689 dX7_count_74 ?_
          exact xr_i hc hlocks hr rfl hw (⟨hσ_22, fun _ => by rw [hsw, hσ_22]; simp [x_up]; rfl⟩) (Nat.le_of_ble_eq_true rfl) (Nat.le_of_ble_eq_true rfl) dX7_count_77
        · refine lv_tableIn (tgt := 78) (off := 47) hx hb dX7_count_31 (x_swl hsw) (x_swh hsw (by decide)) (by rw [x_swn hsw (by decide)]; rfl) (by decide) ?_
          refine lv_aload_n hx hb dX7_count_78 rfl (lv_at hl 0 rfl) ?_
          refine xg_i hc hw 7 0 3 rfl rfl rfl rfl (by decide) (h7) mw_690 dX7_count_79 ?_
          exact xr_i hc hlocks hr rfl hw (⟨hσ_22, fun _ => by rw [hsw, hσ_22]; simp [x_up]; rfl⟩) (Nat.le_of_ble_eq_true rfl) (Nat.le_of_ble_eq_true rfl) dX7_count_82
        · refine lv_tableIn (tgt := 83) (off := 52) hx hb dX7_count_31 (x_swl hsw) (x_swh hsw (by decide)) (by rw [x_swn hsw (by decide)]; rfl) (by decide) ?_
          refine lv_aload_n hx hb dX7_count_83 rfl (lv_at hl 0 rfl) ?_
          refine xg_i hc hw 7 0 4 rfl rfl rfl rfl (by decide) (h7) mw_691 dX7_count_84 ?_
          exact xr_i hc hlocks hr rfl hw (⟨hσ_22, fun _ => by rw [hsw, hσ_22]; simp [x_up]; rfl⟩) (Nat.le_of_ble_eq_true rfl) (Nat.le_of_ble_eq_true rfl) dX7_count_87
        · refine lv_tableIn (tgt := 88) (off := 57) hx hb dX7_count_31 (x_swl hsw) (x_swh hsw (by decide)) (by rw [x_swn hsw (by decide)]; rfl) (by decide) ?_
          refine lv_aload_n hx hb dX7_count_88 rfl (lv_at hl 0 rfl) ?_
          refine lv_iconst (v := 3) hx hb dX7_count_89 (by decide) ?_
          refine xc_Vi hc hw 7 0 (c_X7_inState 3 nB hB1 hB0 h7 hm) rfl rfl (h7) mw_959 mw_956 mw_4 mw_958 mp_33 xd_X7_inState ⟨by decide, by decide⟩ (rfl) hl.1 (Nat.le_of_ble_eq_true rfl) dX7_count_90 ⟨Nat.le_of_ble_eq_true rfl, Nat.le_of_ble_eq_true rfl⟩ (fun r_90 σ_90 H locs hq hw => ?_)
          obtain ⟨hσ_90, hr_90⟩ := hq
          rw [hσ_90] at hw
          exact xr_i hc hlocks hr rfl hw (⟨hσ_22, fun _ => by rw [hsw, hr_90, hσ_22, m_cnt_t]; rfl⟩) (Nat.le_of_ble_eq_true rfl) (Nat.le_of_ble_eq_true rfl) dX7_count_93
        · refine lv_tableIn (tgt := 94) (off := 63) hx hb dX7_count_31 (x_swl hsw) (x_swh hsw (by decide)) (by rw [x_swn hsw (by decide)]; rfl) (by decide) ?_
          refine lv_aload_n hx hb dX7_count_94 rfl (lv_at hl 0 rfl) ?_
          refine lv_iconst (v := 4) hx hb dX7_count_95 (by decide) ?_
          refine xc_Vi hc hw 7 0 (c_X7_inState 4 nB hB1 hB0 h7 hm) rfl rfl (h7) mw_959 mw_956 mw_4 mw_958 mp_33 xd_X7_inState ⟨by decide, by decide⟩ (rfl) hl.1 (Nat.le_of_ble_eq_true rfl) dX7_count_96 ⟨Nat.le_of_ble_eq_true rfl, Nat.le_of_ble_eq_true rfl⟩ (fun r_96 σ_96 H locs hq hw => ?_)
          obtain ⟨hσ_96, hr_96⟩ := hq
          rw [hσ_96] at hw
          exact xr_i hc hlocks hr rfl hw (⟨hσ_22, fun _ => by rw [hsw, hr_96, hσ_22, m_cnt_t]; rfl⟩) (Nat.le_of_ble_eq_true rfl) (Nat.le_of_ble_eq_true rfl) dX7_count_99
    · refine lv_iconst (v := 0) hx hb dX7_count_28 (by decide) ?_
      exact xr_i hc hlocks hr rfl hw (⟨hσ_22, fun h => absurd h (x_if0 hr_22 c_25)⟩) (Nat.le_of_ble_eq_true rfl) (Nat.le_of_ble_eq_true rfl) dX7_count_29
  refine lv_aload_n hx hb dX7_count_5 rfl (lv_at hl 0 rfl) ?_
  refine lv_iload_n hx hb dX7_count_6 rfl (lv_at hl 1 rfl) ?_
  refine lv_if_lt (tgt := 20) hx hb dX7_count_7 (by decide) (fun c_7 => ?_) (fun c_7 => ?_)
  · refine lv_iconst (v := 0) hx hb dX7_count_20 (by decide) ?_
    exact cut_21 _ (by simp_all [← Int32.not_le]) _ _ _ (lv_sub hl [0, 1] rfl) hw
  · refine lv_iload_n hx hb dX7_count_10 rfl (lv_at hl 1 rfl) ?_
    refine lv_bipush (v := 6) hx hb dX7_count_11 (by decide) ?_
    refine lv_icmp_gt (tgt := 20) hx hb dX7_count_13 (by decide) (fun c_13 => ?_) (fun c_13 => ?_)
    · refine lv_iconst (v := 0) hx hb dX7_count_20 (by decide) ?_
      exact cut_21 _ (by simp_all [← Int32.not_le]) _ _ _ (lv_sub hl [0, 1] rfl) hw
    · refine lv_iconst (v := 1) hx hb dX7_count_16 (by decide) ?_
      refine lv_goto (tgt := 21) hx hb dX7_count_17 (by decide) ?_
      exact cut_21 _ (by simp_all [← Int32.not_le]) _ _ _ (lv_sub hl [0, 1] rfl) hw
/-- X7_order -/
def q_X7_order (σ : x_St) (a b d e1 f g1 h : Int32) (nO : Nat) : Int32 → x_St → Prop := fun r σ' => (nO < 30 ∧ (((1 ≤ a ∧ a ≤ 9) ∧ (1 ≤ b ∧ b ≤ 3) ∧ (d = 2 ∨ d = 4) ∧ 0 ≤ e1 ∧ e1 ≤ f ∧ f ≤ 9) ∧ (0 ≤ g1 ∧ g1 ≤ 999) ∧ 0 ≤ h ∧ h ≤ 999) → r = nI nO ∧ σ' = m_ord σ a b d e1 f g1 h nO) ∧ (¬ (nO < 30 ∧ (((1 ≤ a ∧ a ≤ 9) ∧ (1 ≤ b ∧ b ≤ 3) ∧ (d = 2 ∨ d = 4) ∧ 0 ≤ e1 ∧ e1 ≤ f ∧ f ≤ 9) ∧ (0 ≤ g1 ∧ g1 ≤ 999) ∧ 0 ≤ h ∧ h ≤ 999)) → r = -1 ∧ σ' = x_up σ 7 0 0 0)
set_option maxHeartbeats 4000000 in
set_option maxRecDepth 100000 in
theorem c_X7_order {l : Launch} {D : va_G} {cs : Nat → ClassId} {base : Nat} {ad : Nat → Nat → Nat} {n st : Nat → Nat} {σ : x_St} (a b d e1 f g1 h : Int32) (nO : Nat) (hO : σ 7 0 4 = nI nO) (hO0 : nO ≤ 30) (h7 : 0 < n 7) (hm : ∀ k, 36 ≤ k → k < 70 → 0 < n k ∧ 0 < st (100 + k)) : x_Ci l yX7_order cX7_order 9 (some .int) 1 0 0 D cs base ad n st σ [.ref (ad 7 0), .int a, .int b, .int d, .int e1, .int f, .int g1, .int h] (q_X7_order σ a b d e1 f g1 h nO) (fun σ' => x_U D cs base ad n st σ') := by
  refine Met.ofW (cc := cX7_order) (maxL := 9) (ret := some .int) (by decide) rfl ?_
  intro p e s m args below meth c s₁ B hml hv
  obtain ⟨rfl, hU⟩ := hv
  have hx := B.exec
  have hb := B.bytes
  have hr := B.returns
  have hts := atoms_spec (ws := Cond.code yX7_order cX7_order 9 (some .int) :: Tw) B.pre
  have hown : s.vm.findClass RX7 = some m.cls := findClass_of_methodNamed B.named
  have hlocks := B.notSynchronized
  have hc : CallFix p m c cX7_order 9 s (([.ref (ad 7 0), .int a, .int b, .int d, .int e1, .int f, .int g1, .int h] : List Value).toArray) Tw RX7 := ⟨hx, hb, hml, hown, fun w hw => hts w (List.mem_cons_of_mem _ hw)⟩
  have hw := x_B.start hU
  have hl := lv_entry ([.ref (ad 7 0), .int a, .int b, .int d, .int e1, .int f, .int g1, .int h]) (n := 9) (Nat.le_of_ble_eq_true rfl)
  rw [lg_entry_eq]
  generalize (lg_sl ([.ref (ad 7 0), .int a, .int b, .int d, .int e1, .int f, .int g1, .int h]) ++ List.replicate (9 - (lg_sl ([.ref (ad 7 0), .int a, .int b, .int d, .int e1, .int f, .int g1, .int h])).length) Slot.unset).toArray = ls at hl ⊢
  have hl : lv_has ls 9 [(0, .ref (ad 7 0)), (1, .int a), (2, .int b), (3, .int d), (4, .int e1), (5, .int f), (6, .int g1), (7, .int h)] := hl
  show W p l e (x_rm 1 0 0) s m ([.ref (ad 7 0), .int a, .int b, .int d, .int e1, .int f, .int g1, .int h] : List Value).toArray below meth c s.heap [] 0 0 (MQ below (va_Qi (q_X7_order σ a b d e1 f g1 h nO) (fun σ' => x_U D cs base ad n st σ') (x_A base)) ([.ref (ad 7 0), .int a, .int b, .int d, .int e1, .int f, .int g1, .int h] : List Value).toArray s 0 0 (x_A base)) (F0 m 0 ls [])
  refine lv_aload_n hx hb dX7_order_0 rfl (lv_at hl 0 rfl) ?_
  refine lv_iconst (v := 0) hx hb dX7_order_1 (by decide) ?_
  refine xp_i hc hw 7 0 0 rfl rfl rfl rfl (by decide) (h7) rfl (ty := .int) (by decide +kernel) rfl rfl mw_687 dX7_order_2 (fun H locs hw => ?_)
  have cut_60 : ∀ (z : Int32), (z = if ((1 ≤ a ∧ a ≤ 9) ∧ (1 ≤ b ∧ b ≤ 3) ∧ (d = 2 ∨ d = 4) ∧ 0 ≤ e1 ∧ e1 ≤ f ∧ f ≤ 9) then 1 else 0) → ∀ (H : Heap) (locs : List Loc) (ls : Array Slot), lv_has ls 9 [(0, .ref (ad 7 0)), (1, .int a), (2, .int b), (3, .int d), (4, .int e1), (5, .int f), (6, .int g1), (7, .int h)] → x_B D cs base ad n st (x_up σ 7 0 0 0) s H locs → W p l e (x_rm 1 0 0) s m ([.ref (ad 7 0), .int a, .int b, .int d, .int e1, .int f, .int g1, .int h] : List Value).toArray below meth c H locs 0 0 (MQ below (va_Qi (q_X7_order σ a b d e1 f g1 h nO) (fun σ' => x_U D cs base ad n st σ') (x_A base)) ([.ref (ad 7 0), .int a, .int b, .int d, .int e1, .int f, .int g1, .int h] : List Value).toArray s 0 0 (x_A base)) (F0 m 60 ls [.int z]) := by
    intro z hz H locs ls hl hw
    refine lv_istore (lv' := [(8, .int z), (0, .ref (ad 7 0)), (1, .int a), (2, .int b), (3, .int d), (4, .int e1), (5, .int f), (6, .int g1), (7, .int h)]) hx hb dX7_order_60 hl (by decide) rfl (fun ls hl => ?_)
    have cut_102 : (¬ (nO < 30 ∧ (((1 ≤ a ∧ a ≤ 9) ∧ (1 ≤ b ∧ b ≤ 3) ∧ (d = 2 ∨ d = 4) ∧ 0 ≤ e1 ∧ e1 ≤ f ∧ f ≤ 9) ∧ (0 ≤ g1 ∧ g1 ≤ 999) ∧ 0 ≤ h ∧ h ≤ 999))) → ∀ (H : Heap) (locs : List Loc) (ls : Array Slot), lv_has ls 9 [(0, .ref (ad 7 0)), (1, .int a), (2, .int b), (3, .int d), (4, .int e1), (5, .int f), (6, .int g1), (7, .int h)] → x_B D cs base ad n st (x_up σ 7 0 0 0) s H locs → W p l e (x_rm 1 0 0) s m ([.ref (ad 7 0), .int a, .int b, .int d, .int e1, .int f, .int g1, .int h] : List Value).toArray below meth c H locs 0 0 (MQ below (va_Qi (q_X7_order σ a b d e1 f g1 h nO) (fun σ' => x_U D cs base ad n st σ') (x_A base)) ([.ref (ad 7 0), .int a, .int b, .int d, .int e1, .int f, .int g1, .int h] : List Value).toArray s 0 0 (x_A base)) (F0 m 102 ls []) := by
      intro  hbad H locs ls hl hw
      refine lv_iconst (v := (-1)) hx hb dX7_order_102 (by decide) ?_
      exact xr_i hc hlocks hr rfl hw (⟨fun q => absurd q hbad, fun _ => ⟨rfl, rfl⟩⟩) (Nat.le_of_ble_eq_true rfl) (Nat.le_of_ble_eq_true rfl) dX7_order_103
    refine lv_aload_n hx hb dX7_order_62 rfl (lv_at hl 1 rfl) ?_
    refine xg_i hc hw 7 0 4 rfl rfl rfl rfl (by decide) (h7) mw_691 dX7_order_63 ?_
    refine lv_bipush (v := 30) hx hb dX7_order_66 (by decide) ?_
    refine lv_icmp_eq (tgt := 102) hx hb dX7_order_68 (by decide) (fun c_68 => ?_) (fun c_68 => ?_)
    · exact cut_102 (fun q => by have h30 := x_n30 (hO.symm.trans (by simpa [x_up] using c_68)) hO0; omega) _ _ _ (lv_sub hl [1, 2, 3, 4, 5, 6, 7, 8] rfl) hw
    · refine lv_iload hx hb dX7_order_71 (lv_at hl 0 rfl) ?_
      refine lv_if_eq (tgt := 102) hx hb dX7_order_73 (by decide) (fun c_73 => ?_) (fun c_73 => ?_)
      · exact cut_102 (by simp_all [← Int32.not_le, x_up]) _ _ _ (lv_sub hl [1, 2, 3, 4, 5, 6, 7, 8] rfl) hw
      · refine lv_iload hx hb dX7_order_76 (lv_at hl 7 rfl) ?_
        refine lv_if_lt (tgt := 102) hx hb dX7_order_78 (by decide) (fun c_78 => ?_) (fun c_78 => ?_)
        · exact cut_102 (by simp_all [← Int32.not_le, x_up]) _ _ _ (lv_sub hl [1, 2, 3, 4, 5, 6, 7, 8] rfl) hw
        · refine lv_iload hx hb dX7_order_81 (lv_at hl 7 rfl) ?_
          refine lv_sipush (v := 999) hx hb dX7_order_83 (by decide) ?_
          refine lv_icmp_gt (tgt := 102) hx hb dX7_order_86 (by decide) (fun c_86 => ?_) (fun c_86 => ?_)
          · exact cut_102 (by simp_all [← Int32.not_le, x_up]) _ _ _ (lv_sub hl [1, 2, 3, 4, 5, 6, 7, 8] rfl) hw
          · refine lv_iload hx hb dX7_order_89 (lv_at hl 8 rfl) ?_
            refine lv_if_lt (tgt := 102) hx hb dX7_order_91 (by decide) (fun c_91 => ?_) (fun c_91 => ?_)
            · exact cut_102 (by simp_all [← Int32.not_le, x_up]) _ _ _ (lv_sub hl [1, 2, 3, 4, 5, 6, 7, 8] rfl) hw
            · refine lv_iload hx hb dX7_order_94 (lv_at hl 8 rfl) ?_
              refine lv_sipush (v := 999) hx hb dX7_order_96 (by decide) ?_
              refine lv_icmp_le (tgt := 104) hx hb dX7_order_99 (by decide) (fun c_99 => ?_) (fun c_99 => ?_)
              · have hne : nO < 30 := x_lt30 hO hO0 (by simpa [x_up] using c_68)
                have hgood : (((1 ≤ a ∧ a ≤ 9) ∧ (1 ≤ b ∧ b ≤ 3) ∧ (d = 2 ∨ d = 4) ∧ 0 ≤ e1 ∧ e1 ≤ f ∧ f ≤ 9) ∧ (0 ≤ g1 ∧ g1 ≤ 999) ∧ 0 ≤ h ∧ h ≤ 999) := by simp_all [← Int32.not_le]
                refine lv_aload_n hx hb dX7_order_104 rfl (lv_at hl 1 rfl) ?_
                refine xg_r hc hw 7 0 30 rfl rfl rfl rfl (by decide) (h7) ((hm 60 (by decide) (by decide)).2) mw_717 dX7_order_105 ?_
                refine lv_aload_n hx hb dX7_order_108 rfl (lv_at hl 1 rfl) ?_
                refine xg_i hc hw 7 0 4 rfl rfl rfl rfl (by decide) (h7) mw_691 dX7_order_109 ?_
                refine lv_iload_n hx hb dX7_order_112 rfl (lv_at hl 2 rfl) ?_
                refine xa_st hc hw 60 0 nO rfl ((hm 60 (by decide) (by decide)).1) (by simp [x_up, hO]) (hne) dX7_order_113 (fun H locs hw => ?_)
                refine lv_aload_n hx hb dX7_order_114 rfl (lv_at hl 1 rfl) ?_
                refine xg_r hc hw 7 0 31 rfl rfl rfl rfl (by decide) (h7) ((hm 61 (by decide) (by decide)).2) mw_718 dX7_order_115 ?_
                refine lv_aload_n hx hb dX7_order_118 rfl (lv_at hl 1 rfl) ?_
                refine xg_i hc hw 7 0 4 rfl rfl rfl rfl (by decide) (h7) mw_691 dX7_order_119 ?_
                refine lv_iload_n hx hb dX7_order_122 rfl (lv_at hl 3 rfl) ?_
                refine xa_st hc hw 61 0 nO rfl ((hm 61 (by decide) (by decide)).1) (by simp [x_up, hO]) (hne) dX7_order_123 (fun H locs hw => ?_)
                refine lv_aload_n hx hb dX7_order_124 rfl (lv_at hl 1 rfl) ?_
                refine xg_r hc hw 7 0 32 rfl rfl rfl rfl (by decide) (h7) ((hm 62 (by decide) (by decide)).2) mw_719 dX7_order_125 ?_
                refine lv_aload_n hx hb dX7_order_128 rfl (lv_at hl 1 rfl) ?_
                refine xg_i hc hw 7 0 4 rfl rfl rfl rfl (by decide) (h7) mw_691 dX7_order_129 ?_
                refine lv_iload_n hx hb dX7_order_132 rfl (lv_at hl 4 rfl) ?_
                refine xa_st hc hw 62 0 nO rfl ((hm 62 (by decide) (by decide)).1) (by simp [x_up, hO]) (hne) dX7_order_133 (fun H locs hw => ?_)
                refine lv_aload_n hx hb dX7_order_134 rfl (lv_at hl 1 rfl) ?_
                refine xg_r hc hw 7 0 33 rfl rfl rfl rfl (by decide) (h7) ((hm 63 (by decide) (by decide)).2) mw_720 dX7_order_135 ?_
                refine lv_aload_n hx hb dX7_order_138 rfl (lv_at hl 1 rfl) ?_
                refine xg_i hc hw 7 0 4 rfl rfl rfl rfl (by decide) (h7) mw_691 dX7_order_139 ?_
                refine lv_iload hx hb dX7_order_142 (lv_at hl 5 rfl) ?_
                refine xa_st hc hw 63 0 nO rfl ((hm 63 (by decide) (by decide)).1) (by simp [x_up, hO]) (hne) dX7_order_144 (fun H locs hw => ?_)
                refine lv_aload_n hx hb dX7_order_145 rfl (lv_at hl 1 rfl) ?_
                refine xg_r hc hw 7 0 34 rfl rfl rfl rfl (by decide) (h7) ((hm 64 (by decide) (by decide)).2) mw_721 dX7_order_146 ?_
                refine lv_aload_n hx hb dX7_order_149 rfl (lv_at hl 1 rfl) ?_
                refine xg_i hc hw 7 0 4 rfl rfl rfl rfl (by decide) (h7) mw_691 dX7_order_150 ?_
                refine lv_iload hx hb dX7_order_153 (lv_at hl 6 rfl) ?_
                refine xa_st hc hw 64 0 nO rfl ((hm 64 (by decide) (by decide)).1) (by simp [x_up, hO]) (hne) dX7_order_155 (fun H locs hw => ?_)
                refine lv_aload_n hx hb dX7_order_156 rfl (lv_at hl 1 rfl) ?_
                refine xg_r hc hw 7 0 35 rfl rfl rfl rfl (by decide) (h7) ((hm 65 (by decide) (by decide)).2) mw_722 dX7_order_157 ?_
                refine lv_aload_n hx hb dX7_order_160 rfl (lv_at hl 1 rfl) ?_
                refine xg_i hc hw 7 0 4 rfl rfl rfl rfl (by decide) (h7) mw_691 dX7_order_161 ?_
                refine lv_iload hx hb dX7_order_164 (lv_at hl 7 rfl) ?_
                refine xa_st hc hw 65 0 nO rfl ((hm 65 (by decide) (by decide)).1) (by simp [x_up, hO]) (hne) dX7_order_166 (fun H locs hw => ?_)
                refine lv_aload_n hx hb dX7_order_167 rfl (lv_at hl 1 rfl) ?_
                refine xg_r hc hw 7 0 36 rfl rfl rfl rfl (by decide) (h7) ((hm 66 (by decide) (by decide)).2) mw_723 dX7_order_168 ?_
                refine lv_aload_n hx hb dX7_order_171 rfl (lv_at hl 1 rfl) ?_
                refine xg_i hc hw 7 0 4 rfl rfl rfl rfl (by decide) (h7) mw_691 dX7_order_172 ?_
                refine lv_iload hx hb dX7_order_175 (lv_at hl 8 rfl) ?_
                refine xa_st hc hw 66 0 nO rfl ((hm 66 (by decide) (by decide)).1) (by simp [x_up, hO]) (hne) dX7_order_177 (fun H locs hw => ?_)
                refine lv_aload_n hx hb dX7_order_178 rfl (lv_at hl 1 rfl) ?_
                refine xg_r hc hw 7 0 37 rfl rfl rfl rfl (by decide) (h7) ((hm 67 (by decide) (by decide)).2) mw_724 dX7_order_179 ?_
                refine lv_aload_n hx hb dX7_order_182 rfl (lv_at hl 1 rfl) ?_
                refine xg_i hc hw 7 0 4 rfl rfl rfl rfl (by decide) (h7) mw_691 dX7_order_183 ?_
                refine lv_iconst (v := (-1)) hx hb dX7_order_186 (by decide) ?_
                refine xa_st hc hw 67 0 nO rfl ((hm 67 (by decide) (by decide)).1) (by simp [x_up, hO]) (hne) dX7_order_187 (fun H locs hw => ?_)
                refine lv_aload_n hx hb dX7_order_188 rfl (lv_at hl 1 rfl) ?_
                refine lv_dup hx hb dX7_order_189 rfl ?_
                refine xg_i hc hw 7 0 4 rfl rfl rfl rfl (by decide) (h7) mw_691 dX7_order_190 ?_
                refine lv_iconst (v := 1) hx hb dX7_order_193 (by decide) ?_
                refine lv_iadd hx hb dX7_order_194 ?_
                refine xp_i hc hw 7 0 4 rfl rfl rfl rfl (by decide) (h7) rfl (ty := .int) (by decide +kernel) rfl rfl mw_691 dX7_order_195 (fun H locs hw => ?_)
                refine lv_aload_n hx hb dX7_order_198 rfl (lv_at hl 1 rfl) ?_
                refine xg_i hc hw 7 0 4 rfl rfl rfl rfl (by decide) (h7) mw_691 dX7_order_199 ?_
                refine lv_iconst (v := 1) hx hb dX7_order_202 (by decide) ?_
                refine lv_isub hx hb dX7_order_203 ?_
                exact xr_i hc hlocks hr rfl hw (⟨fun _ => ⟨by simp [x_up, hO, x_p1], by simp [m_ord, x_up, hO, nI_1]⟩, fun q => absurd ⟨hne, hgood⟩ q⟩) (Nat.le_of_ble_eq_true rfl) (Nat.le_of_ble_eq_true rfl) dX7_order_204
              · exact cut_102 (by simp_all [← Int32.not_le, x_up]) _ _ _ (lv_sub hl [1, 2, 3, 4, 5, 6, 7, 8] rfl) hw
  refine lv_iload_n hx hb dX7_order_5 rfl (lv_at hl 1 rfl) ?_
  refine lv_iconst (v := 1) hx hb dX7_order_6 (by decide) ?_
  refine lv_icmp_lt (tgt := 59) hx hb dX7_order_7 (by decide) (fun c_7 => ?_) (fun c_7 => ?_)
  · refine lv_iconst (v := 0) hx hb dX7_order_59 (by decide) ?_
    exact cut_60 _ (by simp_all [← Int32.not_le]) _ _ _ (lv_sub hl [0, 1, 2, 3, 4, 5, 6, 7] rfl) hw
  · refine lv_iload_n hx hb dX7_order_10 rfl (lv_at hl 1 rfl) ?_
    refine lv_bipush (v := 9) hx hb dX7_order_11 (by decide) ?_
    refine lv_icmp_gt (tgt := 59) hx hb dX7_order_13 (by decide) (fun c_13 => ?_) (fun c_13 => ?_)
    · refine lv_iconst (v := 0) hx hb dX7_order_59 (by decide) ?_
      exact cut_60 _ (by simp_all [← Int32.not_le]) _ _ _ (lv_sub hl [0, 1, 2, 3, 4, 5, 6, 7] rfl) hw
    · refine lv_iload_n hx hb dX7_order_16 rfl (lv_at hl 2 rfl) ?_
      refine lv_iconst (v := 1) hx hb dX7_order_17 (by decide) ?_
      refine lv_icmp_lt (tgt := 59) hx hb dX7_order_18 (by decide) (fun c_18 => ?_) (fun c_18 => ?_)
      · refine lv_iconst (v := 0) hx hb dX7_order_59 (by decide) ?_
        exact cut_60 _ (by simp_all [← Int32.not_le]) _ _ _ (lv_sub hl [0, 1, 2, 3, 4, 5, 6, 7] rfl) hw
      · refine lv_iload_n hx hb dX7_order_21 rfl (lv_at hl 2 rfl) ?_
        refine lv_iconst (v := 3) hx hb dX7_order_22 (by decide) ?_
        refine lv_icmp_gt (tgt := 59) hx hb dX7_order_23 (by decide) (fun c_23 => ?_) (fun c_23 => ?_)
        · refine lv_iconst (v := 0) hx hb dX7_order_59 (by decide) ?_
          exact cut_60 _ (by simp_all [← Int32.not_le]) _ _ _ (lv_sub hl [0, 1, 2, 3, 4, 5, 6, 7] rfl) hw
        · refine lv_iload_n hx hb dX7_order_26 rfl (lv_at hl 3 rfl) ?_
          refine lv_iconst (v := 2) hx hb dX7_order_27 (by decide) ?_
          refine lv_icmp_eq (tgt := 36) hx hb dX7_order_28 (by decide) (fun c_28 => ?_) (fun c_28 => ?_)
          · refine lv_iload hx hb dX7_order_36 (lv_at hl 4 rfl) ?_
            refine lv_if_lt (tgt := 59) hx hb dX7_order_38 (by decide) (fun c_38 => ?_) (fun c_38 => ?_)
            · refine lv_iconst (v := 0) hx hb dX7_order_59 (by decide) ?_
              exact cut_60 _ (by simp_all [← Int32.not_le]) _ _ _ (lv_sub hl [0, 1, 2, 3, 4, 5, 6, 7] rfl) hw
            · refine lv_iload hx hb dX7_order_41 (lv_at hl 4 rfl) ?_
              refine lv_iload hx hb dX7_order_43 (lv_at hl 5 rfl) ?_
              refine lv_icmp_gt (tgt := 59) hx hb dX7_order_45 (by decide) (fun c_45 => ?_) (fun c_45 => ?_)
              · refine lv_iconst (v := 0) hx hb dX7_order_59 (by decide) ?_
                exact cut_60 _ (by simp_all [← Int32.not_le]) _ _ _ (lv_sub hl [0, 1, 2, 3, 4, 5, 6, 7] rfl) hw
              · refine lv_iload hx hb dX7_order_48 (lv_at hl 5 rfl) ?_
                refine lv_bipush (v := 9) hx hb dX7_order_50 (by decide) ?_
                refine lv_icmp_gt (tgt := 59) hx hb dX7_order_52 (by decide) (fun c_52 => ?_) (fun c_52 => ?_)
                · refine lv_iconst (v := 0) hx hb dX7_order_59 (by decide) ?_
                  exact cut_60 _ (by simp_all [← Int32.not_le]) _ _ _ (lv_sub hl [0, 1, 2, 3, 4, 5, 6, 7] rfl) hw
                · refine lv_iconst (v := 1) hx hb dX7_order_55 (by decide) ?_
                  refine lv_goto (tgt := 60) hx hb dX7_order_56 (by decide) ?_
                  exact cut_60 _ (by simp_all [← Int32.not_le]) _ _ _ (lv_sub hl [0, 1, 2, 3, 4, 5, 6, 7] rfl) hw
          · refine lv_iload_n hx hb dX7_order_31 rfl (lv_at hl 3 rfl) ?_
            refine lv_iconst (v := 4) hx hb dX7_order_32 (by decide) ?_
            refine lv_icmp_ne (tgt := 59) hx hb dX7_order_33 (by decide) (fun c_33 => ?_) (fun c_33 => ?_)
            · refine lv_iconst (v := 0) hx hb dX7_order_59 (by decide) ?_
              exact cut_60 _ (by simp_all [← Int32.not_le]) _ _ _ (lv_sub hl [0, 1, 2, 3, 4, 5, 6, 7] rfl) hw
            · refine lv_iload hx hb dX7_order_36 (lv_at hl 4 rfl) ?_
              refine lv_if_lt (tgt := 59) hx hb dX7_order_38 (by decide) (fun c_38 => ?_) (fun c_38 => ?_)
              · refine lv_iconst (v := 0) hx hb dX7_order_59 (by decide) ?_
                exact cut_60 _ (by simp_all [← Int32.not_le]) _ _ _ (lv_sub hl [0, 1, 2, 3, 4, 5, 6, 7] rfl) hw
              · refine lv_iload hx hb dX7_order_41 (lv_at hl 4 rfl) ?_
                refine lv_iload hx hb dX7_order_43 (lv_at hl 5 rfl) ?_
                refine lv_icmp_gt (tgt := 59) hx hb dX7_order_45 (by decide) (fun c_45 => ?_) (fun c_45 => ?_)
                · refine lv_iconst (v := 0) hx hb dX7_order_59 (by decide) ?_
                  exact cut_60 _ (by simp_all [← Int32.not_le]) _ _ _ (lv_sub hl [0, 1, 2, 3, 4, 5, 6, 7] rfl) hw
                · refine lv_iload hx hb dX7_order_48 (lv_at hl 5 rfl) ?_
                  refine lv_bipush (v := 9) hx hb dX7_order_50 (by decide) ?_
                  refine lv_icmp_gt (tgt := 59) hx hb dX7_order_52 (by decide) (fun c_52 => ?_) (fun c_52 => ?_)
                  · refine lv_iconst (v := 0) hx hb dX7_order_59 (by decide) ?_
                    exact cut_60 _ (by simp_all [← Int32.not_le]) _ _ _ (lv_sub hl [0, 1, 2, 3, 4, 5, 6, 7] rfl) hw
                  · refine lv_iconst (v := 1) hx hb dX7_order_55 (by decide) ?_
                    refine lv_goto (tgt := 60) hx hb dX7_order_56 (by decide) ?_
                    exact cut_60 _ (by simp_all [← Int32.not_le]) _ _ _ (lv_sub hl [0, 1, 2, 3, 4, 5, 6, 7] rfl) hw
