def m_t (σ : x_St) (sh R C pl z : Nat) : Int32 := if z = 0 then 1 else m_th (m_G σ sh C) R C pl z
def m_cF (σ : x_St) (sh R C pl kk z : Nat) (F : Nat → Int32) : Int32 := if m_t σ sh R C pl z = 0 then -1000000 else
  match m_tn C pl kk z with
  | none => -1000000
  | some v => F v + (if z = 0 then 0 else 100 * σ 41 0 (10 * z + x_c (m_t σ sh R C pl z)) - 1)
def m_cm (σ : x_St) (sh R C pl kk z : Nat) : Int32 := m_cF σ sh R C pl kk z (fun v => σ 68 0 (4096 * (pl + 1) + v))
theorem m_46 {C : Nat} (h : C ≤ 6) : 4 ^ C ≤ 4096 := Nat.pow_le_pow_right (n := 4) (by decide) h
theorem x_4096 {pl v : Nat} : 4096 * (nI pl + 1) + nI v = nI (4096 * (pl + 1) + v) := by
  rw [nI_1, show (4096 : Int32) = nI 4096 from rfl, pk_mul, nI_add]
theorem x_10z {z t : Nat} : 10 * nI z + nI t = nI (10 * z + t) := by
  rw [show (10 : Int32) = nI 10 from rfl, pk_mul, nI_add]
theorem m_t_fit {σ : x_St} {sh R C pl z : Nat} (h : ¬ m_t σ sh R C pl z = 0) : z = 0 ∨ pl % C + z ≤ C := by
  by_cases hz : z = 0
  · exact Or.inl hz
  · right
    rw [m_t, if_neg hz, m_th] at h
    exact Nat.not_lt.mp fun q => h (if_pos (Or.inr q))
theorem th_in_ok {G : Nat → Int32} : ∀ (f x : Nat) (l : Int32), (∀ q, x ≤ q → q < x + f → ∃ t, t ≤ 9 ∧ G q = nI t) → (∃ t, t ≤ 9 ∧ l = nI t) → ∃ t, t ≤ 9 ∧ th_in G f x l = nI t
  | 0, _, _, _, h => h
  | f + 1, x, l, hG, h => by
    rw [th_in]
    refine th_in_ok f (x + 1) _ (fun q h1 h2 => hG q (by omega) (by omega)) ?_
    split
    · exact hG x (Nat.le_refl _) (by omega)
    · exact h
theorem th_out_ok {G : Nat → Nat → Int32} {c z : Nat} : ∀ (f y : Nat) (l : Int32), (∀ q x, y ≤ q → q < y + f → c ≤ x → x < c + z → ∃ t, t ≤ 9 ∧ G q x = nI t) → (∃ t, t ≤ 9 ∧ l = nI t) → ∃ t, t ≤ 9 ∧ th_out G c z f y l = nI t
  | 0, _, _, _, h => h
  | f + 1, y, l, hG, h => by
    rw [th_out]
    exact th_out_ok f (y + 1) _ (fun q x h1 h2 => hG q x (by omega) (by omega)) (th_in_ok z c l (fun x h1 h2 => hG y x (Nat.le_refl _) (by omega) h1 h2) h)
theorem m_th_ok {G : Nat → Nat → Int32} {R C pl z : Nat} (hG : ∀ y x, y < R → x < C → ∃ t, t ≤ 9 ∧ G y x = nI t) : ∃ t, t ≤ 9 ∧ m_th G R C pl z = nI t := by
  rw [m_th]
  split
  · exact ⟨0, by decide, rfl⟩
  · exact th_out_ok _ _ _ (fun q x h1 h2 h3 h4 => hG q x (by omega) (by omega)) ⟨9, by decide, rfl⟩
theorem m_t_ok {σ : x_St} {sh R C pl z : Nat} (hG : ∀ y x, y < R → x < C → ∃ t, t ≤ 9 ∧ m_G σ sh C y x = nI t) : ∃ t, t ≤ 9 ∧ m_t σ sh R C pl z = nI t := by
  rw [m_t]
  split
  · exact ⟨1, by decide, rfl⟩
  · exact m_th_ok hG
theorem m_oi_some {o : Option Nat} (h : ¬ m_oi o = -1) : ∃ v, o = some v := by
  cases o with
  | none => exact absurd rfl h
  | some v => exact ⟨v, rfl⟩
theorem m_ti_lt {k z C : Nat} (hz : z ≤ 3) : ∀ (f x v w : Nat), m_ti k z f x v = some w → x + f ≤ C → v / 4 ^ x = k / 4 ^ x → v < 4 ^ C → w < 4 ^ C
  | 0, _, _, _, h, _, _, h4 => by cases h; exact h4
  | f + 1, x, v, w, h, h1, h2, h4 => by
    rw [m_ti] at h
    split at h
    · rename_i h0
      refine m_ti_lt hz f (x + 1) _ w h (by omega) (bq_up h2 h0 (by omega)) ?_
      have hp : 0 < 4 ^ x := Nat.pow_pos (by decide)
      obtain ⟨q, hq⟩ : ∃ q, v / 4 ^ x = 4 * q := ⟨v / 4 ^ x / 4, by rw [h2]; unfold m_dg at h0; omega⟩
      have hlo : v % 4 ^ x < 4 ^ x := Nat.mod_lt _ hp
      have hv2 : v = 4 ^ x * (4 * q) + v % 4 ^ x := by rw [← hq]; exact (Nat.div_add_mod v (4 ^ x)).symm
      obtain ⟨e, he⟩ : ∃ e, C = x + 1 + e := ⟨C - (x + 1), by omega⟩
      have e4 : 4 ^ C = 4 ^ x * 4 * 4 ^ e := by rw [he, Nat.pow_add, Nat.pow_succ]
      have hq2 : q < 4 ^ e := by
        refine Nat.lt_of_mul_lt_mul_left (a := 4 ^ x * 4) ?_
        rw [← e4]
        rw [hv2, ← Nat.mul_assoc] at h4
        omega
      have hm := Nat.mul_le_mul_left (4 ^ x * 4) (show q + 1 ≤ 4 ^ e from hq2)
      rw [Nat.mul_add, Nat.mul_one, Nat.mul_assoc (4 ^ x) 4 q] at hm
      have hz2 := Nat.mul_le_mul_right (4 ^ x) hz
      rw [e4]
      omega
    · cases h
theorem m_tn_lt {C pl k z v : Nat} (h : m_tn C pl k z = some v) (hk : k < 4 ^ C) (hC1 : 1 ≤ C) (hz : z ≤ 3) (hfit : z = 0 ∨ pl % C + z ≤ C) : v < 4 ^ C := by
  rw [m_tn] at h
  split at h
  · split at h
    · cases h; exact Nat.lt_of_le_of_lt (Nat.sub_le _ _) hk
    · cases h
  · split at h
    · cases h; exact hk
    · rename_i hz1
      obtain ⟨w, h1, rfl⟩ := Option.map_eq_some_iff.mp h
      exact Nat.lt_of_le_of_lt (Nat.sub_le _ _) (m_ti_lt hz z (pl % C) k w h1 (by omega) rfl hk)
theorem m_oi_none {C pl k z : Nat} (hfit : z = 0 ∨ pl % C + z ≤ C) (hk : k < 4 ^ C) (hC1 : 1 ≤ C) (hC0 : C ≤ 6) (hz : z ≤ 3) (h : m_oi (m_tn C pl k z) = -1) : m_tn C pl k z = none := by
  cases hv : m_tn C pl k z with
  | none => rfl
  | some v =>
    rw [hv] at h
    have h1 := m_tn_lt hv hk hC1 hz hfit
    have h2 := m_46 hC0
    exact absurd (show nI v = -1 from h) (fun q => by have := congrArg Int32.toInt q; rw [nI_toInt (by omega)] at this; simp at this)

/-- X7_comes -/
def q_X7_comes (σ : x_St) (sh pl z C R kk : Nat) : Int32 → x_St → Prop := fun r σ' => σ' = σ ∧ r = m_cm σ sh R C pl kk z
set_option maxHeartbeats 4000000 in
set_option maxRecDepth 100000 in
theorem c_X7_comes {l : Launch} {D : va_G} {cs : Nat → ClassId} {base : Nat} {ad : Nat → Nat → Nat} {n st : Nat → Nat} {σ : x_St} (sh pl z C : Nat) (hsh : sh < 30) (hC : σ 37 0 sh = nI C) (hC1 : 1 ≤ C) (hC0 : C ≤ 6) (hpl : pl < 36) (hz : z ≤ 3) (R : Nat) (hR : σ 36 0 sh = nI R) (hR0 : R ≤ 6) (kk : Nat) (hk : kk < 4 ^ C) (hG : ∀ y x, y < R → x < C → ∃ t, t ≤ 9 ∧ m_G σ sh C y x = nI t) (h7 : 0 < n 7) (hm : ∀ k, 36 ≤ k → k < 70 → 0 < n k ∧ 0 < st (100 + k)) : x_Ci l yX7_comes cX7_comes 7 (some .int) 2 0 0 D cs base ad n st σ [.ref (ad 7 0), .int (nI sh), .int (nI pl), .int (nI kk), .int (nI z)] (q_X7_comes σ sh pl z C R kk) (fun σ' => x_U D cs base ad n st σ') := by
  refine Met.ofW (cc := cX7_comes) (maxL := 7) (ret := some .int) (by decide) rfl ?_
  intro p e s m args below meth c s₁ B hml hv
  obtain ⟨rfl, hU⟩ := hv
  have hx := B.exec
  have hb := B.bytes
  have hr := B.returns
  have hts := atoms_spec (ws := Cond.code yX7_comes cX7_comes 7 (some .int) :: Tw) B.pre
  have hown : s.vm.findClass RX7 = some m.cls := findClass_of_methodNamed B.named
  have hlocks := B.notSynchronized
  have hc : CallFix p m c cX7_comes 7 s (([.ref (ad 7 0), .int (nI sh), .int (nI pl), .int (nI kk), .int (nI z)] : List Value).toArray) Tw RX7 := ⟨hx, hb, hml, hown, fun w hw => hts w (List.mem_cons_of_mem _ hw)⟩
  have hw := x_B.start hU
  have hl := lv_entry ([.ref (ad 7 0), .int (nI sh), .int (nI pl), .int (nI kk), .int (nI z)]) (n := 7) (Nat.le_of_ble_eq_true rfl)
  rw [lg_entry_eq]
  generalize (lg_sl ([.ref (ad 7 0), .int (nI sh), .int (nI pl), .int (nI kk), .int (nI z)]) ++ List.replicate (7 - (lg_sl ([.ref (ad 7 0), .int (nI sh), .int (nI pl), .int (nI kk), .int (nI z)])).length) Slot.unset).toArray = ls at hl ⊢
  have hl : lv_has ls 7 [(0, .ref (ad 7 0)), (1, .int (nI sh)), (2, .int (nI pl)), (3, .int (nI kk)), (4, .int (nI z))] := hl
  show W p l e (x_rm 2 0 0) s m ([.ref (ad 7 0), .int (nI sh), .int (nI pl), .int (nI kk), .int (nI z)] : List Value).toArray below meth c s.heap [] 0 0 (MQ below (va_Qi (q_X7_comes σ sh pl z C R kk) (fun σ' => x_U D cs base ad n st σ') (x_A base)) ([.ref (ad 7 0), .int (nI sh), .int (nI pl), .int (nI kk), .int (nI z)] : List Value).toArray s 0 0 (x_A base)) (F0 m 0 ls [])
  have cut_17 : ∀ (t5 : Int32), (t5 = (m_t σ sh R C pl z)) → ∀ (H : Heap) (locs : List Loc) (ls : Array Slot), lv_has ls 7 [(0, .ref (ad 7 0)), (1, .int (nI sh)), (2, .int (nI pl)), (3, .int (nI kk)), (4, .int (nI z))] → x_B D cs base ad n st σ s H locs → W p l e (x_rm 2 0 0) s m ([.ref (ad 7 0), .int (nI sh), .int (nI pl), .int (nI kk), .int (nI z)] : List Value).toArray below meth c H locs 0 0 (MQ below (va_Qi (q_X7_comes σ sh pl z C R kk) (fun σ' => x_U D cs base ad n st σ') (x_A base)) ([.ref (ad 7 0), .int (nI sh), .int (nI pl), .int (nI kk), .int (nI z)] : List Value).toArray s 0 0 (x_A base)) (F0 m 17 ls [.int t5]) := by
    intro t5 ht H locs ls hl hw
    refine lv_istore (lv' := [(5, .int t5), (0, .ref (ad 7 0)), (1, .int (nI sh)), (2, .int (nI pl)), (3, .int (nI kk)), (4, .int (nI z))]) hx hb dX7_comes_17 hl (by decide) rfl (fun ls hl => ?_)
    refine lv_iload hx hb dX7_comes_19 (lv_at hl 0 rfl) ?_
    refine lv_if_ne (tgt := 27) hx hb dX7_comes_21 (by decide) (fun c_21 => ?_) (fun c_21 => ?_)
    · have h46 : 4 ^ C ≤ 4096 := m_46 hC0
      have hfit := m_t_fit (σ := σ) (sh := sh) (R := R) (C := C) (pl := pl) (z := z) (by rw [← ht]; exact c_21)
      refine lv_aload_n hx hb dX7_comes_27 rfl (lv_at hl 1 rfl) ?_
      refine lv_iload_n hx hb dX7_comes_28 rfl (lv_at hl 2 rfl) ?_
      refine lv_iload_n hx hb dX7_comes_29 rfl (lv_at hl 3 rfl) ?_
      refine lv_iload_n hx hb dX7_comes_30 rfl (lv_at hl 4 rfl) ?_
      refine lv_iload hx hb dX7_comes_31 (lv_at hl 5 rfl) ?_
      refine xc_Vi hc hw 7 0 (c_X7_taken sh pl z C hsh hC hC1 hC0 hpl hz kk (by omega) h7 hm) rfl rfl (h7) mw_859 mw_856 mw_4 mw_858 mp_24 xd_X7_taken ⟨by decide, by decide⟩ (rfl) hl.1 (Nat.le_of_ble_eq_true rfl) dX7_comes_33 ⟨Nat.le_of_ble_eq_true rfl, Nat.le_of_ble_eq_true rfl⟩ (fun r_33 σ_33 H locs hq hw => ?_)
      obtain ⟨hσ_33, hr_33⟩ := hq
      rw [hσ_33] at hw
      refine lv_istore (lv' := [(6, .int r_33), (5, .int t5), (0, .ref (ad 7 0)), (1, .int (nI sh)), (2, .int (nI pl)), (3, .int (nI kk)), (4, .int (nI z))]) hx hb dX7_comes_36 hl (by decide) rfl (fun ls hl => ?_)
      refine lv_iload hx hb dX7_comes_38 (lv_at hl 0 rfl) ?_
      refine lv_iconst (v := (-1)) hx hb dX7_comes_40 (by decide) ?_
      refine lv_icmp_ne (tgt := 47) hx hb dX7_comes_41 (by decide) (fun c_41 => ?_) (fun c_41 => ?_)
      · obtain ⟨v, hv⟩ := m_oi_some (by rw [← hr_33]; exact c_41)
        have hvl := m_tn_lt hv hk hC1 hz hfit
        have hr2 : r_33 = nI v := (by rw [hr_33, hv]; rfl)
        obtain ⟨tt, ht9, htt⟩ := m_t_ok (σ := σ) (sh := sh) (R := R) (C := C) (pl := pl) (z := z) hG
        refine lv_aload_n hx hb dX7_comes_47 rfl (lv_at hl 2 rfl) ?_
        refine xg_r hc hw 7 0 38 rfl rfl rfl rfl (by decide) (h7) ((hm 68 (by decide) (by decide)).2) mw_725 dX7_comes_48 ?_
        refine lv_sipush (v := 4096) hx hb dX7_comes_51 (by decide) ?_
        refine lv_iload_n hx hb dX7_comes_54 rfl (lv_at hl 4 rfl) ?_
        refine lv_iconst (v := 1) hx hb dX7_comes_55 (by decide) ?_
        refine lv_iadd hx hb dX7_comes_56 ?_
        refine lv_imul hx hb dX7_comes_57 ?_
        refine lv_iload hx hb dX7_comes_58 (lv_at hl 0 rfl) ?_
        refine lv_iadd hx hb dX7_comes_60 ?_
        refine xa_ld hc hw 68 0 (4096 * (pl + 1) + v) rfl ((hm 68 (by decide) (by decide)).1) (by rw [hr2]; exact x_4096) (by show _ < 151552; omega) dX7_comes_61 ?_
        refine lv_iload hx hb dX7_comes_62 (lv_at hl 6 rfl) ?_
        refine lv_if_ne (tgt := 71) hx hb dX7_comes_64 (by decide) (fun c_64 => ?_) (fun c_64 => ?_)
        · have hz1 : ¬ z = 0 := fun q => c_64 (by rw [q]; rfl)
          refine lv_bipush (v := 100) hx hb dX7_comes_71 (by decide) ?_
          refine lv_aload_n hx hb dX7_comes_73 rfl (lv_at hl 2 rfl) ?_
          refine xg_r hc hw 7 0 11 rfl rfl rfl rfl (by decide) (h7) ((hm 41 (by decide) (by decide)).2) mw_698 dX7_comes_74 ?_
          refine lv_bipush (v := 10) hx hb dX7_comes_77 (by decide) ?_
          refine lv_iload hx hb dX7_comes_79 (lv_at hl 6 rfl) ?_
          refine lv_imul hx hb dX7_comes_81 ?_
          refine lv_iload hx hb dX7_comes_82 (lv_at hl 1 rfl) ?_
          refine lv_iadd hx hb dX7_comes_84 ?_
          refine xa_ld hc hw 41 0 (10 * z + tt) rfl ((hm 41 (by decide) (by decide)).1) (by rw [ht, htt]; exact x_10z) (by show _ < 40; omega) dX7_comes_85 ?_
          refine lv_imul hx hb dX7_comes_86 ?_
          refine lv_iconst (v := 1) hx hb dX7_comes_87 (by decide) ?_
          refine lv_isub hx hb dX7_comes_88 ?_
          refine lv_iadd hx hb dX7_comes_89 ?_
          exact xr_i hc hlocks hr rfl hw (⟨rfl, by rw [m_cm, m_cF, ← ht, if_neg c_21, hv]; first | (rw [if_pos hz0]; done) | (rw [if_neg hz1, ht, htt, x_cn (by omega)]; done) | (show _ = _ + ite _ _ _; rw [if_pos hz0]) | (show _ = _ + ite _ _ _; rw [if_neg hz1, ht, htt, x_cn (by omega)])⟩) (Nat.le_of_ble_eq_true rfl) (Nat.le_of_ble_eq_true rfl) dX7_comes_90
        · have hz0 : z = 0 := (nI_eq (by omega) (by decide)).mp (show nI z = nI 0 from c_64)
          refine lv_iconst (v := 0) hx hb dX7_comes_67 (by decide) ?_
          refine lv_goto (tgt := 89) hx hb dX7_comes_68 (by decide) ?_
          refine lv_iadd hx hb dX7_comes_89 ?_
          exact xr_i hc hlocks hr rfl hw (⟨rfl, by rw [m_cm, m_cF, ← ht, if_neg c_21, hv]; first | (rw [if_pos hz0]; done) | (rw [if_neg hz1, ht, htt, x_cn (by omega)]; done) | (show _ = _ + ite _ _ _; rw [if_pos hz0]) | (show _ = _ + ite _ _ _; rw [if_neg hz1, ht, htt, x_cn (by omega)])⟩) (Nat.le_of_ble_eq_true rfl) (Nat.le_of_ble_eq_true rfl) dX7_comes_90
      · refine lv_ldc hx hb hown (hc.2.2.2.2 _ mw_847) dX7_comes_44 ?_
        exact xr_i hc hlocks hr rfl hw (⟨rfl, by rw [m_cm, m_cF, ← ht, if_neg c_21, m_oi_none hfit hk hC1 hC0 hz (hr_33.symm.trans c_41)]⟩) (Nat.le_of_ble_eq_true rfl) (Nat.le_of_ble_eq_true rfl) dX7_comes_46
    · refine lv_ldc hx hb hown (hc.2.2.2.2 _ mw_847) dX7_comes_24 ?_
      exact xr_i hc hlocks hr rfl hw (⟨rfl, by rw [m_cm, m_cF, ← ht, if_pos c_21]⟩) (Nat.le_of_ble_eq_true rfl) (Nat.le_of_ble_eq_true rfl) dX7_comes_26
  refine lv_iload hx hb dX7_comes_0 (lv_at hl 4 rfl) ?_
  refine lv_if_ne (tgt := 9) hx hb dX7_comes_2 (by decide) (fun c_2 => ?_) (fun c_2 => ?_)
  · have hz1 : ¬ z = 0 := fun q => c_2 (by rw [q]; rfl)
    refine lv_aload_n hx hb dX7_comes_9 rfl (lv_at hl 0 rfl) ?_
    refine lv_iload_n hx hb dX7_comes_10 rfl (lv_at hl 1 rfl) ?_
    refine lv_iload_n hx hb dX7_comes_11 rfl (lv_at hl 2 rfl) ?_
    refine lv_iload hx hb dX7_comes_12 (lv_at hl 4 rfl) ?_
    refine xc_Vi hc hw 7 0 (c_X7_thickness sh pl z C hsh hC hC1 hC0 hpl hz R hR hR0 h7 hm) rfl rfl (h7) mw_855 mw_852 mw_4 mw_854 mp_23 xd_X7_thickness ⟨by decide, by decide⟩ (rfl) hl.1 (Nat.le_of_ble_eq_true rfl) dX7_comes_14 ⟨Nat.le_of_ble_eq_true rfl, Nat.le_of_ble_eq_true rfl⟩ (fun r_14 σ_14 H locs hq hw => ?_)
    obtain ⟨hσ_14, hr_14⟩ := hq
    rw [hσ_14] at hw
    exact cut_17 _ (by first | (rw [hr_14, m_t, if_neg hz1]) | (rw [m_t, if_pos hz0])) _ _ _ (lv_sub hl [0, 1, 2, 3, 4] rfl) hw
  · have hz0 : z = 0 := (nI_eq (by omega) (by decide)).mp (show nI z = nI 0 from c_2)
    refine lv_iconst (v := 1) hx hb dX7_comes_5 (by decide) ?_
    refine lv_goto (tgt := 17) hx hb dX7_comes_6 (by decide) ?_
    exact cut_17 _ (by first | (rw [hr_14, m_t, if_neg hz1]) | (rw [m_t, if_pos hz0])) _ _ _ (lv_sub hl [0, 1, 2, 3, 4] rfl) hw
