theorem x_t59 (σ : x_St) (v : Int32) (q : Nat) : x_up σ 7 0 0 v 59 0 q = σ 59 0 q := x_up_n (by simp)
theorem x_12 {a : Int32} (h : a = nI (x_c a)) : 12 * a = nI (12 * x_c a) := by
  conv => lhs; rw [h]
  rw [show (12 : Int32) = nI 12 from rfl, pk_mul]
def m_ext (σ : x_St) (b : Int32) (c : Nat) : Nat → Int32
  | 0 => σ 43 0 (x_c (σ 59 0 (12 * c)))
  | k + 1 => if (if b = 3 then σ 43 0 (x_c (σ 59 0 (12 * c + k))) < m_ext σ b c k else m_ext σ b c k < σ 43 0 (x_c (σ 59 0 (12 * c + k)))) then σ 43 0 (x_c (σ 59 0 (12 * c + k))) else m_ext σ b c k
theorem m_ext_t (σ : x_St) (v b : Int32) (c k : Nat) : m_ext (x_up σ 7 0 0 v) b c k = m_ext σ b c k := by
  induction k with
  | zero => simp [m_ext, x_up]
  | succ k ih => rw [m_ext, m_ext, ih]; simp [x_up]
def m_nr (σ : x_St) (o : Nat) : Nat → Nat → Nat
  | 0, _ => 0
  | f + 1, c => (if m_for σ c o then 1 else 0) + m_nr σ o f (c + 1)
def m_gv (o : Nat) : Nat → Nat → Nat → x_St → x_St
  | 0, _, _, σ => σ
  | f + 1, c, r, σ => if r = 0 then σ else if m_for σ c o then m_gv o f (c + 1) (r - 1) (x_up σ 58 0 c (nI o)) else m_gv o f (c + 1) r σ
def m_snd (σ : x_St) (o w nC : Nat) (day : Int32) : Int32 × x_St :=
  if m_nr σ o nC 0 < w then (0, σ) else (nI w * (if σ 65 0 o < day then σ 66 0 o / 2 else σ 66 0 o), x_up (m_gv o nC 0 w σ) 67 0 o day)

/-- X7_cardOf -/
def q_X7_cardOf (σ : x_St) (a b : Int32) : Int32 → x_St → Prop := fun r σ' => σ' = x_up σ 7 0 0 (if (0 ≤ a ∧ a < σ 7 0 3) then (if 0 ≤ b ∧ b ≤ 5 then 0 else 1) else 1) ∧ ((0 ≤ a ∧ a < σ 7 0 3) → 0 ≤ b ∧ b ≤ 5 → r = if b = 0 then σ 55 0 (x_c a) else if b = 1 then σ 56 0 (x_c a) else if b = 2 then σ 57 0 (x_c a) else if b = 5 then σ 58 0 (x_c a) else m_ext σ b (x_c a) 12)
set_option maxHeartbeats 4000000 in
set_option maxRecDepth 100000 in
theorem c_X7_cardOf {l : Launch} {D : va_G} {cs : Nat → ClassId} {base : Nat} {ad : Nat → Nat → Nat} {n st : Nat → Nat} {σ : x_St} (a b : Int32) (nC : Nat) (hC : σ 7 0 3 = nI nC) (hC0 : nC ≤ 30) (hon : ∀ q, q < 12 * nC → σ 59 0 q = nI (x_c (σ 59 0 q)) ∧ x_c (σ 59 0 q) < 400) (h7 : 0 < n 7) (hm : ∀ k, 36 ≤ k → k < 70 → 0 < n k ∧ 0 < st (100 + k)) : x_Ci l yX7_cardOf cX7_cardOf 6 (some .int) 3 0 0 D cs base ad n st σ [.ref (ad 7 0), .int a, .int b] (q_X7_cardOf σ a b) (fun σ' => x_U D cs base ad n st σ') := by
  refine Met.ofW (cc := cX7_cardOf) (maxL := 6) (ret := some .int) (by decide) rfl ?_
  intro p e s m args below meth c s₁ B hml hv
  obtain ⟨rfl, hU⟩ := hv
  have hx := B.exec
  have hb := B.bytes
  have hr := B.returns
  have hts := atoms_spec (ws := Cond.code yX7_cardOf cX7_cardOf 6 (some .int) :: Tw) B.pre
  have hown : s.vm.findClass RX7 = some m.cls := findClass_of_methodNamed B.named
  have hlocks := B.notSynchronized
  have hc : CallFix p m c cX7_cardOf 6 s (([.ref (ad 7 0), .int a, .int b] : List Value).toArray) Tw RX7 := ⟨hx, hb, hml, hown, fun w hw => hts w (List.mem_cons_of_mem _ hw)⟩
  have hw := x_B.start hU
  have hl := lv_entry ([.ref (ad 7 0), .int a, .int b]) (n := 6) (Nat.le_of_ble_eq_true rfl)
  rw [lg_entry_eq]
  generalize (lg_sl ([.ref (ad 7 0), .int a, .int b]) ++ List.replicate (6 - (lg_sl ([.ref (ad 7 0), .int a, .int b])).length) Slot.unset).toArray = ls at hl ⊢
  have hl : lv_has ls 6 [(0, .ref (ad 7 0)), (1, .int a), (2, .int b)] := hl
  show W p l e (x_rm 3 0 0) s m ([.ref (ad 7 0), .int a, .int b] : List Value).toArray below meth c s.heap [] 0 0 (MQ below (va_Qi (q_X7_cardOf σ a b) (fun σ' => x_U D cs base ad n st σ') (x_A base)) ([.ref (ad 7 0), .int a, .int b] : List Value).toArray s 0 0 (x_A base)) (F0 m 0 ls [])
  refine lv_aload_n hx hb dX7_cardOf_0 rfl (lv_at hl 0 rfl) ?_
  refine lv_iload_n hx hb dX7_cardOf_1 rfl (lv_at hl 1 rfl) ?_
  refine xc_Vi hc hw 7 0 (c_X7_isCard a h7 hm) rfl rfl (h7) mw_927 mw_924 mw_4 mw_926 mp_30 xd_X7_isCard ⟨by decide, by decide⟩ (rfl) hl.1 (Nat.le_of_ble_eq_true rfl) dX7_cardOf_2 ⟨Nat.le_of_ble_eq_true rfl, Nat.le_of_ble_eq_true rfl⟩ (fun r_2 σ_2 H locs hq hw => ?_)
  have hq_2 := hq
  obtain ⟨hr_2, hσ_2⟩ := hq_2
  refine lv_if_eq (tgt := 30) hx hb dX7_cardOf_5 (by decide) (fun c_5 => ?_) (fun c_5 => ?_)
  · refine lv_iconst (v := 0) hx hb dX7_cardOf_30 (by decide) ?_
    exact xr_i hc hlocks hr rfl hw (⟨by rw [hσ_2, if_neg (x_if0 hr_2 c_5), x_code1 (x_if0 hr_2 c_5)], fun h => absurd h (x_if0 hr_2 c_5)⟩) (Nat.le_of_ble_eq_true rfl) (Nat.le_of_ble_eq_true rfl) dX7_cardOf_31
  · have hP := x_if1 hr_2 c_5
    have cut_23 : ∀ (f : Int32), (f = if 0 ≤ b ∧ b ≤ 5 then 1 else 0) → ∀ (H : Heap) (locs : List Loc) (ls : Array Slot), lv_has ls 6 [(0, .ref (ad 7 0)), (1, .int a), (2, .int b)] → x_B D cs base ad n st σ_2 s H locs → W p l e (x_rm 3 0 0) s m ([.ref (ad 7 0), .int a, .int b] : List Value).toArray below meth c H locs 0 0 (MQ below (va_Qi (q_X7_cardOf σ a b) (fun σ' => x_U D cs base ad n st σ') (x_A base)) ([.ref (ad 7 0), .int a, .int b] : List Value).toArray s 0 0 (x_A base)) (F0 m 23 ls [.int f, .ref (ad 7 0)]) := by
      intro f hf H locs ls hl hw
      refine lv_iconst (v := 1) hx hb dX7_cardOf_23 (by decide) ?_
      refine xc_Vi hc hw 7 0 (c_X7_right f 1 h7 hm) rfl rfl (h7) mw_834 mw_831 mw_4 mw_833 mp_20 xd_X7_right ⟨by decide, by decide⟩ (rfl) hl.1 (Nat.le_of_ble_eq_true rfl) dX7_cardOf_24 ⟨Nat.le_of_ble_eq_true rfl, Nat.le_of_ble_eq_true rfl⟩ (fun r_24 σ_24 H locs hq hw => ?_)
      have hq_24 := hq
      obtain ⟨hr_24, hσ_24⟩ := x_right hq_24 (x_th hσ_2 hP) hf (by decide)
      rw [hσ_2, if_pos hP, x_up_up] at hσ_24
      refine lv_if_ne (tgt := 32) hx hb dX7_cardOf_27 (by decide) (fun c_27 => ?_) (fun c_27 => ?_)
      · have hQ := x_if1 hr_24 c_27
        rw [if_pos hQ] at hσ_24
        refine lv_iload_n hx hb dX7_cardOf_32 rfl (lv_at hl 2 rfl) ?_
        refine lv_if_ne (tgt := 43) hx hb dX7_cardOf_33 (by decide) (fun c_33 => ?_) (fun c_33 => ?_)
        · refine lv_iload_n hx hb dX7_cardOf_43 rfl (lv_at hl 2 rfl) ?_
          refine lv_iconst (v := 1) hx hb dX7_cardOf_44 (by decide) ?_
          refine lv_icmp_ne (tgt := 55) hx hb dX7_cardOf_45 (by decide) (fun c_45 => ?_) (fun c_45 => ?_)
          · refine lv_iload_n hx hb dX7_cardOf_55 rfl (lv_at hl 2 rfl) ?_
            refine lv_iconst (v := 2) hx hb dX7_cardOf_56 (by decide) ?_
            refine lv_icmp_ne (tgt := 67) hx hb dX7_cardOf_57 (by decide) (fun c_57 => ?_) (fun c_57 => ?_)
            · refine lv_iload_n hx hb dX7_cardOf_67 rfl (lv_at hl 2 rfl) ?_
              refine lv_iconst (v := 5) hx hb dX7_cardOf_68 (by decide) ?_
              refine lv_icmp_ne (tgt := 79) hx hb dX7_cardOf_69 (by decide) (fun c_69 => ?_) (fun c_69 => ?_)
              · refine lv_aload_n hx hb dX7_cardOf_79 rfl (lv_at hl 0 rfl) ?_
                refine xg_r hc hw 7 0 13 rfl rfl rfl rfl (by decide) (h7) ((hm 43 (by decide) (by decide)).2) mw_700 dX7_cardOf_80 ?_
                refine lv_aload_n hx hb dX7_cardOf_83 rfl (lv_at hl 0 rfl) ?_
                refine xg_r hc hw 7 0 29 rfl rfl rfl rfl (by decide) (h7) ((hm 59 (by decide) (by decide)).2) mw_716 dX7_cardOf_84 ?_
                refine lv_bipush (v := 12) hx hb dX7_cardOf_87 (by decide) ?_
                refine lv_iload_n hx hb dX7_cardOf_89 rfl (lv_at hl 1 rfl) ?_
                refine lv_imul hx hb dX7_cardOf_90 ?_
                refine xa_ld hc hw 59 0 (12 * x_c a) rfl ((hm 59 (by decide) (by decide)).1) (x_12 (x_ix hP.1 hP.2 hC (by omega)).1) (by have q := (x_ix hP.1 hP.2 hC (by omega)).2; show _ < 360; omega) dX7_cardOf_91 ?_
                refine xa_ld hc hw 43 0 (x_c (σ_24 59 0 (12 * x_c a))) rfl ((hm 43 (by decide) (by decide)).1) (by rw [hσ_24]; simp only [x_t59]; exact (hon _ (by have q := (x_ix hP.1 hP.2 hC (by omega)).2; omega)).1) (by rw [hσ_24]; simp only [x_t59]; exact (hon _ (by have q := (x_ix hP.1 hP.2 hC (by omega)).2; omega)).2) dX7_cardOf_92 ?_
                refine lv_topi (fun x3_93 ex3_93 => ?_)
                refine lv_istore_n (lv' := [(3, .int x3_93), (0, .ref (ad 7 0)), (1, .int a), (2, .int b)]) hx hb dX7_cardOf_93 rfl hl (by decide) rfl (fun ls hl => ?_)
                refine lv_iconst (v := 0) hx hb dX7_cardOf_94 (by decide) ?_
                refine lv_istore (lv' := [(4, .int 0), (3, .int x3_93), (0, .ref (ad 7 0)), (1, .int a), (2, .int b)]) hx hb dX7_cardOf_95 hl (by decide) rfl (fun ls hl => ?_)
                have cut_97 : ∀ (N : Nat) (k : Nat) (x3 : Int32) (x4 : Int32), (k ≤ 12) → (x3 = m_ext σ_24 b (x_c a) k) → (x4 = nI k) → (12 - k < N) → ∀ (H : Heap) (locs : List Loc) (ls : Array Slot), lv_has ls 6 [(0, .ref (ad 7 0)), (1, .int a), (2, .int b), (3, .int x3), (4, .int x4)] → x_B D cs base ad n st σ_24 s H locs → W p l e (x_rm 3 0 0) s m ([.ref (ad 7 0), .int a, .int b] : List Value).toArray below meth c H locs 0 0 (MQ below (va_Qi (q_X7_cardOf σ a b) (fun σ' => x_U D cs base ad n st σ') (x_A base)) ([.ref (ad 7 0), .int a, .int b] : List Value).toArray s 0 0 (x_A base)) (F0 m 97 ls []) := by
                  intro N
                  induction N with
                  | zero => intro k x3 x4 hk h3 h4 hN; exact absurd hN (Nat.not_lt_zero _)
                  | succ N ih_97 =>
                    intro k x3 x4 hk h3 h4 hN H locs ls hl hw
                    refine lv_iload hx hb dX7_cardOf_97 (lv_at hl 4 rfl) ?_
                    refine lv_bipush (v := 12) hx hb dX7_cardOf_99 (by decide) ?_
                    refine lv_icmp_ge (tgt := 152) hx hb dX7_cardOf_101 (by decide) (fun c_101 => ?_) (fun c_101 => ?_)
                    · refine lv_iload_n hx hb dX7_cardOf_152 rfl (lv_at hl 3 rfl) ?_
                      exact xr_i hc hlocks hr rfl hw (⟨by rw [hσ_24, if_pos hP, if_pos hQ], fun _ _ => by rw [if_neg c_33, if_neg c_45, if_neg c_57, if_neg c_69, h3, hσ_24, m_ext_t, show k = 12 from Nat.le_antisymm hk (x_ge h4 (b := 12) rfl (by omega) (by decide) c_101)]⟩) (Nat.le_of_ble_eq_true rfl) (Nat.le_of_ble_eq_true rfl) dX7_cardOf_153
                    · have hlt : k < 12 := x_nge h4 (b := 12) rfl (by omega) (by decide) c_101
                      refine lv_aload_n hx hb dX7_cardOf_104 rfl (lv_at hl 0 rfl) ?_
                      refine xg_r hc hw 7 0 13 rfl rfl rfl rfl (by decide) (h7) ((hm 43 (by decide) (by decide)).2) mw_700 dX7_cardOf_105 ?_
                      refine lv_aload_n hx hb dX7_cardOf_108 rfl (lv_at hl 0 rfl) ?_
                      refine xg_r hc hw 7 0 29 rfl rfl rfl rfl (by decide) (h7) ((hm 59 (by decide) (by decide)).2) mw_716 dX7_cardOf_109 ?_
                      refine lv_bipush (v := 12) hx hb dX7_cardOf_112 (by decide) ?_
                      refine lv_iload_n hx hb dX7_cardOf_114 rfl (lv_at hl 1 rfl) ?_
                      refine lv_imul hx hb dX7_cardOf_115 ?_
                      refine lv_iload hx hb dX7_cardOf_116 (lv_at hl 4 rfl) ?_
                      refine lv_iadd hx hb dX7_cardOf_118 ?_
                      refine xa_ld hc hw 59 0 (12 * x_c a + k) rfl ((hm 59 (by decide) (by decide)).1) (by rw [x_12 (x_ix hP.1 hP.2 hC (by omega)).1, h4, nI_add]) (by have q := (x_ix hP.1 hP.2 hC (by omega)).2; show _ < 360; omega) dX7_cardOf_119 ?_
                      refine xa_ld hc hw 43 0 (x_c (σ_24 59 0 (12 * x_c a + k))) rfl ((hm 43 (by decide) (by decide)).1) (by rw [hσ_24]; simp only [x_t59]; exact (hon _ (by have q := (x_ix hP.1 hP.2 hC (by omega)).2; omega)).1) (by rw [hσ_24]; simp only [x_t59]; exact (hon _ (by have q := (x_ix hP.1 hP.2 hC (by omega)).2; omega)).2) dX7_cardOf_120 ?_
                      refine lv_topi (fun x5_121 ex5_121 => ?_)
                      refine lv_istore (lv' := [(5, .int x5_121), (0, .ref (ad 7 0)), (1, .int a), (2, .int b), (3, .int x3), (4, .int x4)]) hx hb dX7_cardOf_121 hl (by decide) rfl (fun ls hl => ?_)
                      refine lv_iload_n hx hb dX7_cardOf_123 rfl (lv_at hl 3 rfl) ?_
                      refine lv_iconst (v := 3) hx hb dX7_cardOf_124 (by decide) ?_
                      refine lv_icmp_ne (tgt := 137) hx hb dX7_cardOf_125 (by decide) (fun c_125 => ?_) (fun c_125 => ?_)
                      · refine lv_iload hx hb dX7_cardOf_137 (lv_at hl 0 rfl) ?_
                        refine lv_iload_n hx hb dX7_cardOf_139 rfl (lv_at hl 4 rfl) ?_
                        refine lv_icmp_le (tgt := 146) hx hb dX7_cardOf_140 (by decide) (fun c_140 => ?_) (fun c_140 => ?_)
                        · obtain ⟨x4_146, ex4_146⟩ : ∃ y : Int32, y = x4 + 1 := ⟨_, rfl⟩
                          refine lv_iinc (v := x4_146) (lv' := [(4, .int x4_146), (5, .int x5_121), (0, .ref (ad 7 0)), (1, .int a), (2, .int b), (3, .int x3)]) hx hb dX7_cardOf_146 hl (k := 5) rfl (by rw [ex4_146]; rfl) (by decide) rfl (fun ls hl => ?_)
                          refine lv_goto (tgt := 97) hx hb dX7_cardOf_149 (by decide) ?_
                          exact ih_97 (k + 1) _ _ (by omega) (by rw [m_ext, ← h3, ← ex5_121]; clear h3 ex5_121; simp [*, ← Int32.not_le]) (by rw [ex4_146, h4, nI_1]) (by omega) _ _ _ (lv_sub hl [2, 3, 4, 5, 0] rfl) hw
                        · refine lv_iload hx hb dX7_cardOf_143 (lv_at hl 0 rfl) ?_
                          refine lv_istore_n (lv' := [(3, .int x5_121), (5, .int x5_121), (0, .ref (ad 7 0)), (1, .int a), (2, .int b), (4, .int x4)]) hx hb dX7_cardOf_145 rfl hl (by decide) rfl (fun ls hl => ?_)
                          obtain ⟨x4_146, ex4_146⟩ : ∃ y : Int32, y = x4 + 1 := ⟨_, rfl⟩
                          refine lv_iinc (v := x4_146) (lv' := [(4, .int x4_146), (3, .int x5_121), (5, .int x5_121), (0, .ref (ad 7 0)), (1, .int a), (2, .int b)]) hx hb dX7_cardOf_146 hl (k := 5) rfl (by rw [ex4_146]; rfl) (by decide) rfl (fun ls hl => ?_)
                          refine lv_goto (tgt := 97) hx hb dX7_cardOf_149 (by decide) ?_
                          exact ih_97 (k + 1) _ _ (by omega) (by rw [m_ext, ← h3, ← ex5_121]; clear h3 ex5_121; simp [*, ← Int32.not_le]) (by rw [ex4_146, h4, nI_1]) (by omega) _ _ _ (lv_sub hl [3, 4, 5, 1, 0] rfl) hw
                      · refine lv_iload hx hb dX7_cardOf_128 (lv_at hl 0 rfl) ?_
                        refine lv_iload_n hx hb dX7_cardOf_130 rfl (lv_at hl 4 rfl) ?_
                        refine lv_icmp_ge (tgt := 146) hx hb dX7_cardOf_131 (by decide) (fun c_131 => ?_) (fun c_131 => ?_)
                        · obtain ⟨x4_146, ex4_146⟩ : ∃ y : Int32, y = x4 + 1 := ⟨_, rfl⟩
                          refine lv_iinc (v := x4_146) (lv' := [(4, .int x4_146), (5, .int x5_121), (0, .ref (ad 7 0)), (1, .int a), (2, .int b), (3, .int x3)]) hx hb dX7_cardOf_146 hl (k := 5) rfl (by rw [ex4_146]; rfl) (by decide) rfl (fun ls hl => ?_)
                          refine lv_goto (tgt := 97) hx hb dX7_cardOf_149 (by decide) ?_
                          exact ih_97 (k + 1) _ _ (by omega) (by rw [m_ext, ← h3, ← ex5_121]; clear h3 ex5_121; simp [*, ← Int32.not_le]) (by rw [ex4_146, h4, nI_1]) (by omega) _ _ _ (lv_sub hl [2, 3, 4, 5, 0] rfl) hw
                        · refine lv_goto (tgt := 143) hx hb dX7_cardOf_134 (by decide) ?_
                          refine lv_iload hx hb dX7_cardOf_143 (lv_at hl 0 rfl) ?_
                          refine lv_istore_n (lv' := [(3, .int x5_121), (5, .int x5_121), (0, .ref (ad 7 0)), (1, .int a), (2, .int b), (4, .int x4)]) hx hb dX7_cardOf_145 rfl hl (by decide) rfl (fun ls hl => ?_)
                          obtain ⟨x4_146, ex4_146⟩ : ∃ y : Int32, y = x4 + 1 := ⟨_, rfl⟩
                          refine lv_iinc (v := x4_146) (lv' := [(4, .int x4_146), (3, .int x5_121), (5, .int x5_121), (0, .ref (ad 7 0)), (1, .int a), (2, .int b)]) hx hb dX7_cardOf_146 hl (k := 5) rfl (by rw [ex4_146]; rfl) (by decide) rfl (fun ls hl => ?_)
                          refine lv_goto (tgt := 97) hx hb dX7_cardOf_149 (by decide) ?_
                          exact ih_97 (k + 1) _ _ (by omega) (by rw [m_ext, ← h3, ← ex5_121]; clear h3 ex5_121; simp [*, ← Int32.not_le]) (by rw [ex4_146, h4, nI_1]) (by omega) _ _ _ (lv_sub hl [3, 4, 5, 1, 0] rfl) hw
                exact cut_97 _ 0 _ _ (by decide) (ex3_93) (rfl) (Nat.lt_succ_self _) _ _ _ (lv_sub hl [2, 3, 4, 1, 0] rfl) hw
              · refine lv_aload_n hx hb dX7_cardOf_72 rfl (lv_at hl 0 rfl) ?_
                refine xg_r hc hw 7 0 28 rfl rfl rfl rfl (by decide) (h7) ((hm 58 (by decide) (by decide)).2) mw_715 dX7_cardOf_73 ?_
                refine lv_iload_n hx hb dX7_cardOf_76 rfl (lv_at hl 1 rfl) ?_
                refine xa_ld hc hw 58 0 (x_c a) rfl ((hm 58 (by decide) (by decide)).1) ((x_ix hP.1 hP.2 hC (by omega)).1) (Nat.lt_of_lt_of_le (x_ix hP.1 hP.2 hC (by omega)).2 hC0) dX7_cardOf_77 ?_
                exact xr_i hc hlocks hr rfl hw (⟨by rw [hσ_24, if_pos hP, if_pos hQ], fun _ _ => by rw [if_neg c_33, if_neg c_45, if_neg c_57, if_pos c_69, hσ_24]; simp [x_up]⟩) (Nat.le_of_ble_eq_true rfl) (Nat.le_of_ble_eq_true rfl) dX7_cardOf_78
            · refine lv_aload_n hx hb dX7_cardOf_60 rfl (lv_at hl 0 rfl) ?_
              refine xg_r hc hw 7 0 27 rfl rfl rfl rfl (by decide) (h7) ((hm 57 (by decide) (by decide)).2) mw_714 dX7_cardOf_61 ?_
              refine lv_iload_n hx hb dX7_cardOf_64 rfl (lv_at hl 1 rfl) ?_
              refine xa_ld hc hw 57 0 (x_c a) rfl ((hm 57 (by decide) (by decide)).1) ((x_ix hP.1 hP.2 hC (by omega)).1) (Nat.lt_of_lt_of_le (x_ix hP.1 hP.2 hC (by omega)).2 hC0) dX7_cardOf_65 ?_
              exact xr_i hc hlocks hr rfl hw (⟨by rw [hσ_24, if_pos hP, if_pos hQ], fun _ _ => by rw [if_neg c_33, if_neg c_45, if_pos c_57, hσ_24]; simp [x_up]⟩) (Nat.le_of_ble_eq_true rfl) (Nat.le_of_ble_eq_true rfl) dX7_cardOf_66
          · refine lv_aload_n hx hb dX7_cardOf_48 rfl (lv_at hl 0 rfl) ?_
            refine xg_r hc hw 7 0 26 rfl rfl rfl rfl (by decide) (h7) ((hm 56 (by decide) (by decide)).2) mw_713 dX7_cardOf_49 ?_
            refine lv_iload_n hx hb dX7_cardOf_52 rfl (lv_at hl 1 rfl) ?_
            refine xa_ld hc hw 56 0 (x_c a) rfl ((hm 56 (by decide) (by decide)).1) ((x_ix hP.1 hP.2 hC (by omega)).1) (Nat.lt_of_lt_of_le (x_ix hP.1 hP.2 hC (by omega)).2 hC0) dX7_cardOf_53 ?_
            exact xr_i hc hlocks hr rfl hw (⟨by rw [hσ_24, if_pos hP, if_pos hQ], fun _ _ => by rw [if_neg c_33, if_pos c_45, hσ_24]; simp [x_up]⟩) (Nat.le_of_ble_eq_true rfl) (Nat.le_of_ble_eq_true rfl) dX7_cardOf_54
        · refine lv_aload_n hx hb dX7_cardOf_36 rfl (lv_at hl 0 rfl) ?_
          refine xg_r hc hw 7 0 25 rfl rfl rfl rfl (by decide) (h7) ((hm 55 (by decide) (by decide)).2) mw_712 dX7_cardOf_37 ?_
          refine lv_iload_n hx hb dX7_cardOf_40 rfl (lv_at hl 1 rfl) ?_
          refine xa_ld hc hw 55 0 (x_c a) rfl ((hm 55 (by decide) (by decide)).1) ((x_ix hP.1 hP.2 hC (by omega)).1) (Nat.lt_of_lt_of_le (x_ix hP.1 hP.2 hC (by omega)).2 hC0) dX7_cardOf_41 ?_
          exact xr_i hc hlocks hr rfl hw (⟨by rw [hσ_24, if_pos hP, if_pos hQ], fun _ _ => by rw [if_pos c_33, hσ_24]; simp [x_up]⟩) (Nat.le_of_ble_eq_true rfl) (Nat.le_of_ble_eq_true rfl) dX7_cardOf_42
      · refine lv_iconst (v := 0) hx hb dX7_cardOf_30 (by decide) ?_
        exact xr_i hc hlocks hr rfl hw (⟨by rw [hσ_24, if_pos hP], fun _ h => absurd h (x_if0 hr_24 c_27)⟩) (Nat.le_of_ble_eq_true rfl) (Nat.le_of_ble_eq_true rfl) dX7_cardOf_31
    refine lv_aload_n hx hb dX7_cardOf_8 rfl (lv_at hl 0 rfl) ?_
    refine lv_iload_n hx hb dX7_cardOf_9 rfl (lv_at hl 2 rfl) ?_
    refine lv_if_lt (tgt := 22) hx hb dX7_cardOf_10 (by decide) (fun c_10 => ?_) (fun c_10 => ?_)
    · refine lv_iconst (v := 0) hx hb dX7_cardOf_22 (by decide) ?_
      exact cut_23 _ (by simp_all [← Int32.not_le]) _ _ _ (lv_sub hl [0, 1, 2] rfl) hw
    · refine lv_iload_n hx hb dX7_cardOf_13 rfl (lv_at hl 2 rfl) ?_
      refine lv_iconst (v := 5) hx hb dX7_cardOf_14 (by decide) ?_
      refine lv_icmp_gt (tgt := 22) hx hb dX7_cardOf_15 (by decide) (fun c_15 => ?_) (fun c_15 => ?_)
      · refine lv_iconst (v := 0) hx hb dX7_cardOf_22 (by decide) ?_
        exact cut_23 _ (by simp_all [← Int32.not_le]) _ _ _ (lv_sub hl [0, 1, 2] rfl) hw
      · refine lv_iconst (v := 1) hx hb dX7_cardOf_18 (by decide) ?_
        refine lv_goto (tgt := 23) hx hb dX7_cardOf_19 (by decide) ?_
        exact cut_23 _ (by simp_all [← Int32.not_le]) _ _ _ (lv_sub hl [0, 1, 2] rfl) hw
