def m_G (σ : x_St) (sh C y x : Nat) : Int32 := σ 39 0 (36 * sh + C * y + x)
def th_in (G : Nat → Int32) : Nat → Nat → Int32 → Int32
  | 0, _, l => l
  | f + 1, x, l => th_in G f (x + 1) (if G x < l then G x else l)
def th_out (G : Nat → Nat → Int32) (c z : Nat) : Nat → Nat → Int32 → Int32
  | 0, _, l => l
  | f + 1, y, l => th_out G c z f (y + 1) (th_in (G y) z c l)
def m_th (G : Nat → Nat → Int32) (R C pl z : Nat) : Int32 := if R < pl / C + z ∨ C < pl % C + z then 0 else th_out G (pl % C) z z (pl / C) 9
theorem x_gt2 {x y : Int32} {a b : Nat} (hx : x = nI a) (hy : y = nI b) (ha : a < 2 ^ 31) (hb : b < 2 ^ 31) (h : y < x) : b < a := by
  rw [hx, hy] at h; exact (nI_ltI hb ha).mp h
theorem x_le2 {x y : Int32} {a b : Nat} (hx : x = nI a) (hy : y = nI b) (ha : a < 2 ^ 31) (hb : b < 2 ^ 31) (h : x ≤ y) : a ≤ b := by
  rw [hx, hy] at h; exact (nI_leI ha hb).mp h
theorem x_nle2 {x y : Int32} {a b : Nat} (hx : x = nI a) (hy : y = nI b) (ha : a < 2 ^ 31) (hb : b < 2 ^ 31) (h : ¬ x ≤ y) : b < a := by
  rw [hx, hy] at h; exact Nat.not_le.mp fun q => h ((nI_leI ha hb).mpr q)
theorem x_39 {sh C y x : Nat} : 36 * nI sh + nI C * nI y + nI x = nI (36 * sh + C * y + x) := by
  rw [show (36 : Int32) = nI 36 from rfl, pk_mul, pk_mul, nI_add, nI_add]
def m_dg (k x : Nat) : Nat := k / 4 ^ x % 4
def m_ti (k z : Nat) : Nat → Nat → Nat → Option Nat
  | 0, _, v => some v
  | f + 1, x, v => if m_dg k x = 0 then m_ti k z f (x + 1) (v + z * 4 ^ x) else none
def m_tn (C pl k z : Nat) : Option Nat := if 0 < m_dg k (pl % C) then (if z = 0 then some (k - 4 ^ (pl % C)) else none) else if z = 0 then some k else (m_ti k z z (pl % C) k).map (fun v => v - 4 ^ (pl % C))
def m_oi : Option Nat → Int32
  | none => -1
  | some v => nI v
theorem bq_sl : ∀ n, n < 32 → ((nI n &&& 31).toBitVec.smod 32).toNat = n := by decide +kernel
theorem bq_2 (x : Nat) : (2 : Int32) * nI x = nI (2 * x) := pk_mul 2 x
theorem bq_p (x : Nat) : 2 ^ (2 * x) = 4 ^ x := by rw [Nat.pow_mul]
theorem bq_dg {k x : Nat} (hk : k < 2 ^ 31) (hx : x < 16) : (nI k >>> ((2 * nI x) &&& 31)) &&& 3 = nI (m_dg k x) := by
  rw [bq_2, pk_shrN hk _ (2 * x) (bq_sl _ (by omega)), bq_p]
  exact pk_andN (Nat.lt_of_le_of_lt (Nat.div_le_self _ _) (by omega)) 2 (by decide)
theorem bq_shl {z x : Nat} (hz : z < 4) (hx : x < 14) : nI z <<< ((2 * nI x) &&& 31) = nI (z * 4 ^ x) := by
  rw [bq_2, pk_shlN _ (2 * x) (bq_sl _ (by omega)), bq_p]
  rw [bq_p]
  have : 4 ^ x ≤ 4 ^ 13 := Nat.pow_le_pow_right (by decide) (by omega)
  have h4 : (4 : Nat) ^ 13 = 67108864 := by decide
  have := Nat.mul_le_mul (show z ≤ 3 by omega) this
  omega
theorem bq_1 {x : Nat} (hx : x < 14) : (1 : Int32) <<< ((2 * nI x) &&& 31) = nI (4 ^ x) := by
  have := bq_shl (z := 1) (x := x) (by decide) hx
  rw [Nat.one_mul] at this
  exact this
theorem bq_or {v z x : Nat} (hv : v / 4 ^ x % 4 = 0) (hz : z < 4) : nI v ||| nI (z * 4 ^ x) = nI (v + z * 4 ^ x) := by
  have hor : nI v ||| nI (z * 4 ^ x) = nI (v ||| z * 4 ^ x) := by
    apply Int32.toBitVec_inj.1
    show BitVec.ofNat 32 v ||| BitVec.ofNat 32 (z * 4 ^ x) = BitVec.ofNat 32 (v ||| z * 4 ^ x)
    apply BitVec.eq_of_getLsbD_eq
    intro i hi
    simp [hi]
  rw [hor]
  congr 1
  have hp : 0 < 4 ^ x := Nat.pow_pos (by decide)
  obtain ⟨q, hq⟩ : ∃ q, v / 4 ^ x = 4 * q := ⟨v / 4 ^ x / 4, by omega⟩
  have hlo : v % 4 ^ x < 4 ^ x := Nat.mod_lt _ hp
  have hv2 : v = 4 ^ x * (4 * q) + v % 4 ^ x := by rw [← hq]; exact (Nat.div_add_mod v (4 ^ x)).symm
  generalize v % 4 ^ x = lo at hlo hv2
  subst hv2
  have e2 : (4 : Nat) ^ x = 2 ^ (2 * x) := (bq_p x).symm
  have e3 : (2 : Nat) ^ (2 * x + 2) = 4 ^ x * 4 := by rw [Nat.pow_add, bq_p]
  have a1 : 4 ^ x * (4 * q) + lo = 4 ^ x * (4 * q) ||| lo := by rw [e2]; exact Nat.two_pow_add_eq_or_of_lt (by rw [← e2]; exact hlo) _
  have a2 : 4 ^ x * z + lo = 4 ^ x * z ||| lo := by rw [e2]; exact Nat.two_pow_add_eq_or_of_lt (by rw [← e2]; exact hlo) _
  have hlt : 4 ^ x * z + lo < 2 ^ (2 * x + 2) := by
    rw [e3]
    have := Nat.mul_le_mul_left (4 ^ x) (show z ≤ 3 by omega)
    omega
  have a3 : 4 ^ x * (4 * q) + (4 ^ x * z + lo) = 4 ^ x * (4 * q) ||| (4 ^ x * z + lo) := by
    rw [← Nat.mul_assoc, ← e3]
    exact Nat.two_pow_add_eq_or_of_lt hlt _
  rw [a1, Nat.mul_comm z, Nat.or_assoc, Nat.or_comm lo, ← a2, ← a3, ← a1]
  omega
theorem bq_up {v k z x : Nat} (hv : v / 4 ^ x = k / 4 ^ x) (h0 : m_dg k x = 0) (hz : z < 4) : (v + z * 4 ^ x) / 4 ^ (x + 1) = k / 4 ^ (x + 1) := by
  have hp : 0 < 4 ^ x := Nat.pow_pos (by decide)
  rw [Nat.pow_succ, ← Nat.div_div_eq_div_mul, ← Nat.div_div_eq_div_mul, Nat.add_mul_div_right _ _ hp, hv]
  unfold m_dg at h0
  omega
theorem bq_own {k x : Nat} (h : 0 < m_dg k x) : 4 ^ x ≤ k := by
  rcases Nat.lt_or_ge k (4 ^ x) with q | q
  · unfold m_dg at h
    rw [Nat.div_eq_of_lt q] at h
    exact absurd h (by decide)
  · exact q

/-- X7_thickness -/
def q_X7_thickness (σ : x_St) (sh pl z C R : Nat) : Int32 → x_St → Prop := fun r σ' => σ' = σ ∧ r = m_th (m_G σ sh C) R C pl z
set_option maxHeartbeats 4000000 in
set_option maxRecDepth 100000 in
theorem c_X7_thickness {l : Launch} {D : va_G} {cs : Nat → ClassId} {base : Nat} {ad : Nat → Nat → Nat} {n st : Nat → Nat} {σ : x_St} (sh pl z C : Nat) (hsh : sh < 30) (hC : σ 37 0 sh = nI C) (hC1 : 1 ≤ C) (hC0 : C ≤ 6) (hpl : pl < 36) (hz : z ≤ 3) (R : Nat) (hR : σ 36 0 sh = nI R) (hR0 : R ≤ 6) (h7 : 0 < n 7) (hm : ∀ k, 36 ≤ k → k < 70 → 0 < n k ∧ 0 < st (100 + k)) : x_Ci l yX7_thickness cX7_thickness 10 (some .int) 1 0 0 D cs base ad n st σ [.ref (ad 7 0), .int (nI sh), .int (nI pl), .int (nI z)] (q_X7_thickness σ sh pl z C R) (fun σ' => x_U D cs base ad n st σ') := by
  refine Met.ofW (cc := cX7_thickness) (maxL := 10) (ret := some .int) (by decide) rfl ?_
  intro p e s m args below meth c s₁ B hml hv
  obtain ⟨rfl, hU⟩ := hv
  have hx := B.exec
  have hb := B.bytes
  have hr := B.returns
  have hts := atoms_spec (ws := Cond.code yX7_thickness cX7_thickness 10 (some .int) :: Tw) B.pre
  have hown : s.vm.findClass RX7 = some m.cls := findClass_of_methodNamed B.named
  have hlocks := B.notSynchronized
  have hc : CallFix p m c cX7_thickness 10 s (([.ref (ad 7 0), .int (nI sh), .int (nI pl), .int (nI z)] : List Value).toArray) Tw RX7 := ⟨hx, hb, hml, hown, fun w hw => hts w (List.mem_cons_of_mem _ hw)⟩
  have hw := x_B.start hU
  have hl := lv_entry ([.ref (ad 7 0), .int (nI sh), .int (nI pl), .int (nI z)]) (n := 10) (Nat.le_of_ble_eq_true rfl)
  rw [lg_entry_eq]
  generalize (lg_sl ([.ref (ad 7 0), .int (nI sh), .int (nI pl), .int (nI z)]) ++ List.replicate (10 - (lg_sl ([.ref (ad 7 0), .int (nI sh), .int (nI pl), .int (nI z)])).length) Slot.unset).toArray = ls at hl ⊢
  have hl : lv_has ls 10 [(0, .ref (ad 7 0)), (1, .int (nI sh)), (2, .int (nI pl)), (3, .int (nI z))] := hl
  show W p l e (x_rm 1 0 0) s m ([.ref (ad 7 0), .int (nI sh), .int (nI pl), .int (nI z)] : List Value).toArray below meth c s.heap [] 0 0 (MQ below (va_Qi (q_X7_thickness σ sh pl z C R) (fun σ' => x_U D cs base ad n st σ') (x_A base)) ([.ref (ad 7 0), .int (nI sh), .int (nI pl), .int (nI z)] : List Value).toArray s 0 0 (x_A base)) (F0 m 0 ls [])
  refine lv_iload_n hx hb dX7_thickness_0 rfl (lv_at hl 2 rfl) ?_
  refine lv_aload_n hx hb dX7_thickness_1 rfl (lv_at hl 0 rfl) ?_
  refine xg_r hc hw 7 0 7 rfl rfl rfl rfl (by decide) (h7) ((hm 37 (by decide) (by decide)).2) mw_694 dX7_thickness_2 ?_
  refine lv_iload_n hx hb dX7_thickness_5 rfl (lv_at hl 1 rfl) ?_
  refine xa_ld hc hw 37 0 sh rfl ((hm 37 (by decide) (by decide)).1) (rfl) (hsh) dX7_thickness_6 ?_
  refine lv_idiv hx hb dX7_thickness_7 (by rw [hC]; exact nI_ne0 (by omega) (by omega)) ?_
  refine lv_topi (fun x4_8 ex4_8 => ?_)
  refine lv_istore (lv' := [(4, .int x4_8), (0, .ref (ad 7 0)), (1, .int (nI sh)), (2, .int (nI pl)), (3, .int (nI z))]) hx hb dX7_thickness_8 hl (by decide) rfl (fun ls hl => ?_)
  have h4 : x4_8 = nI (pl / C) := (by rw [ex4_8, hC, pk_div (by omega) (by omega) (by omega)])
  refine lv_iload_n hx hb dX7_thickness_10 rfl (lv_at hl 3 rfl) ?_
  refine lv_aload_n hx hb dX7_thickness_11 rfl (lv_at hl 1 rfl) ?_
  refine xg_r hc hw 7 0 7 rfl rfl rfl rfl (by decide) (h7) ((hm 37 (by decide) (by decide)).2) mw_694 dX7_thickness_12 ?_
  refine lv_iload_n hx hb dX7_thickness_15 rfl (lv_at hl 2 rfl) ?_
  refine xa_ld hc hw 37 0 sh rfl ((hm 37 (by decide) (by decide)).1) (rfl) (hsh) dX7_thickness_16 ?_
  refine lv_irem hx hb dX7_thickness_17 (by rw [hC]; exact nI_ne0 (by omega) (by omega)) ?_
  refine lv_topi (fun x5_18 ex5_18 => ?_)
  refine lv_istore (lv' := [(5, .int x5_18), (4, .int x4_8), (0, .ref (ad 7 0)), (1, .int (nI sh)), (2, .int (nI pl)), (3, .int (nI z))]) hx hb dX7_thickness_18 hl (by decide) rfl (fun ls hl => ?_)
  have h5 : x5_18 = nI (pl % C) := (by rw [ex5_18, hC, pk_rem (by omega) (by omega) (by omega)])
  have hpr : pl / C ≤ 36 := Nat.le_trans (Nat.div_le_self _ _) (by omega)
  have hpc : pl % C < C := Nat.mod_lt _ (by omega)
  have h4z : x4_8 + nI z = nI (pl / C + z) := (by rw [h4, nI_add])
  have h5z : x5_18 + nI z = nI (pl % C + z) := (by rw [h5, nI_add])
  have cut_46 : (R < pl / C + z ∨ C < pl % C + z) → ∀ (H : Heap) (locs : List Loc) (ls : Array Slot), lv_has ls 10 [(0, .ref (ad 7 0)), (1, .int (nI sh)), (2, .int (nI pl)), (3, .int (nI z))] → x_B D cs base ad n st σ s H locs → W p l e (x_rm 1 0 0) s m ([.ref (ad 7 0), .int (nI sh), .int (nI pl), .int (nI z)] : List Value).toArray below meth c H locs 0 0 (MQ below (va_Qi (q_X7_thickness σ sh pl z C R) (fun σ' => x_U D cs base ad n st σ') (x_A base)) ([.ref (ad 7 0), .int (nI sh), .int (nI pl), .int (nI z)] : List Value).toArray s 0 0 (x_A base)) (F0 m 46 ls []) := by
    intro  hbad H locs ls hl hw
    refine lv_iconst (v := 0) hx hb dX7_thickness_46 (by decide) ?_
    exact xr_i hc hlocks hr rfl hw (⟨rfl, by rw [m_th, if_pos hbad]⟩) (Nat.le_of_ble_eq_true rfl) (Nat.le_of_ble_eq_true rfl) dX7_thickness_47
  refine lv_iload hx hb dX7_thickness_20 (lv_at hl 1 rfl) ?_
  refine lv_iload_n hx hb dX7_thickness_22 rfl (lv_at hl 5 rfl) ?_
  refine lv_iadd hx hb dX7_thickness_23 ?_
  refine lv_aload_n hx hb dX7_thickness_24 rfl (lv_at hl 2 rfl) ?_
  refine xg_r hc hw 7 0 6 rfl rfl rfl rfl (by decide) (h7) ((hm 36 (by decide) (by decide)).2) mw_693 dX7_thickness_25 ?_
  refine lv_iload_n hx hb dX7_thickness_28 rfl (lv_at hl 3 rfl) ?_
  refine xa_ld hc hw 36 0 sh rfl ((hm 36 (by decide) (by decide)).1) (rfl) (hsh) dX7_thickness_29 ?_
  refine lv_icmp_gt (tgt := 46) hx hb dX7_thickness_30 (by decide) (fun c_30 => ?_) (fun c_30 => ?_)
  · exact cut_46 (Or.inl (x_gt2 h4z hR (by omega) (by omega) c_30)) _ _ _ (lv_sub hl [2, 3, 4, 5] rfl) hw
  · refine lv_iload hx hb dX7_thickness_33 (lv_at hl 0 rfl) ?_
    refine lv_iload_n hx hb dX7_thickness_35 rfl (lv_at hl 5 rfl) ?_
    refine lv_iadd hx hb dX7_thickness_36 ?_
    refine lv_aload_n hx hb dX7_thickness_37 rfl (lv_at hl 2 rfl) ?_
    refine xg_r hc hw 7 0 7 rfl rfl rfl rfl (by decide) (h7) ((hm 37 (by decide) (by decide)).2) mw_694 dX7_thickness_38 ?_
    refine lv_iload_n hx hb dX7_thickness_41 rfl (lv_at hl 3 rfl) ?_
    refine xa_ld hc hw 37 0 sh rfl ((hm 37 (by decide) (by decide)).1) (rfl) (hsh) dX7_thickness_42 ?_
    refine lv_icmp_le (tgt := 48) hx hb dX7_thickness_43 (by decide) (fun c_43 => ?_) (fun c_43 => ?_)
    · have hf1 : pl / C + z ≤ R := x_ngt h4z hR (by omega) (by omega) c_30
      have hf2 : pl % C + z ≤ C := x_le2 h5z hC (by omega) (by omega) c_43
      refine lv_bipush (v := 9) hx hb dX7_thickness_48 (by decide) ?_
      refine lv_istore (lv' := [(6, .int 9), (5, .int x5_18), (4, .int x4_8), (0, .ref (ad 7 0)), (1, .int (nI sh)), (2, .int (nI pl)), (3, .int (nI z))]) hx hb dX7_thickness_50 hl (by decide) rfl (fun ls hl => ?_)
      refine lv_iload hx hb dX7_thickness_52 (lv_at hl 2 rfl) ?_
      refine lv_istore (lv' := [(7, .int x4_8), (6, .int 9), (5, .int x5_18), (4, .int x4_8), (0, .ref (ad 7 0)), (1, .int (nI sh)), (2, .int (nI pl)), (3, .int (nI z))]) hx hb dX7_thickness_54 hl (by decide) rfl (fun ls hl => ?_)
      have cut_56 : ∀ (N : Nat) (y : Nat) (x6 : Int32) (x7 : Int32), (pl / C ≤ y ∧ y ≤ pl / C + z) → (x7 = nI y) → (th_out (m_G σ sh C) (pl % C) z (pl / C + z - y) y x6 = th_out (m_G σ sh C) (pl % C) z z (pl / C) 9) → (pl / C + z - y < N) → ∀ (H : Heap) (locs : List Loc) (ls : Array Slot), lv_has ls 10 [(0, .ref (ad 7 0)), (1, .int (nI sh)), (2, .int (nI pl)), (3, .int (nI z)), (4, .int x4_8), (5, .int x5_18), (6, .int x6), (7, .int x7)] → x_B D cs base ad n st σ s H locs → W p l e (x_rm 1 0 0) s m ([.ref (ad 7 0), .int (nI sh), .int (nI pl), .int (nI z)] : List Value).toArray below meth c H locs 0 0 (MQ below (va_Qi (q_X7_thickness σ sh pl z C R) (fun σ' => x_U D cs base ad n st σ') (x_A base)) ([.ref (ad 7 0), .int (nI sh), .int (nI pl), .int (nI z)] : List Value).toArray s 0 0 (x_A base)) (F0 m 56 ls []) := by
        intro N
        induction N with
        | zero => intro y x6 x7 hy h7y hI hN; exact absurd hN (Nat.not_lt_zero _)
        | succ N ih_56 =>
          intro y x6 x7 hy h7y hI hN H locs ls hl hw
          refine lv_iload hx hb dX7_thickness_56 (lv_at hl 7 rfl) ?_
          refine lv_iload hx hb dX7_thickness_58 (lv_at hl 4 rfl) ?_
          refine lv_iload_n hx hb dX7_thickness_60 rfl (lv_at hl 3 rfl) ?_
          refine lv_iadd hx hb dX7_thickness_61 ?_
          refine lv_icmp_ge (tgt := 130) hx hb dX7_thickness_62 (by decide) (fun c_62 => ?_) (fun c_62 => ?_)
          · refine lv_iload hx hb dX7_thickness_130 (lv_at hl 6 rfl) ?_
            exact xr_i hc hlocks hr rfl hw (⟨rfl, by have hzz := x_ge h7y h4z (by omega) (by omega) c_62; rw [show pl / C + z - y = 0 by omega, th_out] at hI; rw [m_th, if_neg (by omega), ← hI]⟩) (Nat.le_of_ble_eq_true rfl) (Nat.le_of_ble_eq_true rfl) dX7_thickness_132
          · have hyl : y < pl / C + z := x_nge h7y h4z (by omega) (by omega) c_62
            have hst : pl / C + z - y = (pl / C + z - (y + 1)) + 1 := by omega
            rw [hst, th_out] at hI
            refine lv_iload hx hb dX7_thickness_65 (lv_at hl 5 rfl) ?_
            refine lv_istore (lv' := [(8, .int x5_18), (0, .ref (ad 7 0)), (1, .int (nI sh)), (2, .int (nI pl)), (3, .int (nI z)), (4, .int x4_8), (5, .int x5_18), (6, .int x6), (7, .int x7)]) hx hb dX7_thickness_67 hl (by decide) rfl (fun ls hl => ?_)
            have cut_69 : ∀ (N : Nat) (x : Nat) (y6 : Int32) (x8 : Int32), (pl % C ≤ x ∧ x ≤ pl % C + z) → (x8 = nI x) → (th_in ((m_G σ sh C) y) (pl % C + z - x) x y6 = th_in ((m_G σ sh C) y) z (pl % C) x6) → (pl % C + z - x < N) → ∀ (H : Heap) (locs : List Loc) (ls : Array Slot), lv_has ls 10 [(0, .ref (ad 7 0)), (1, .int (nI sh)), (2, .int (nI pl)), (3, .int (nI z)), (4, .int x4_8), (5, .int x5_18), (6, .int y6), (7, .int x7), (8, .int x8)] → x_B D cs base ad n st σ s H locs → W p l e (x_rm 1 0 0) s m ([.ref (ad 7 0), .int (nI sh), .int (nI pl), .int (nI z)] : List Value).toArray below meth c H locs 0 0 (MQ below (va_Qi (q_X7_thickness σ sh pl z C R) (fun σ' => x_U D cs base ad n st σ') (x_A base)) ([.ref (ad 7 0), .int (nI sh), .int (nI pl), .int (nI z)] : List Value).toArray s 0 0 (x_A base)) (F0 m 69 ls []) := by
              intro N
              induction N with
              | zero => intro x y6 x8 hx9 h8x hJ hN; exact absurd hN (Nat.not_lt_zero _)
              | succ N ih_69 =>
                intro x y6 x8 hx9 h8x hJ hN H locs ls hl hw
                refine lv_iload hx hb dX7_thickness_69 (lv_at hl 8 rfl) ?_
                refine lv_iload hx hb dX7_thickness_71 (lv_at hl 5 rfl) ?_
                refine lv_iload_n hx hb dX7_thickness_73 rfl (lv_at hl 3 rfl) ?_
                refine lv_iadd hx hb dX7_thickness_74 ?_
                refine lv_icmp_ge (tgt := 124) hx hb dX7_thickness_75 (by decide) (fun c_75 => ?_) (fun c_75 => ?_)
                · obtain ⟨x7_124, ex7_124⟩ : ∃ y : Int32, y = x7 + 1 := ⟨_, rfl⟩
                  refine lv_iinc (v := x7_124) (lv' := [(7, .int x7_124), (0, .ref (ad 7 0)), (1, .int (nI sh)), (2, .int (nI pl)), (3, .int (nI z)), (4, .int x4_8), (5, .int x5_18), (6, .int y6), (8, .int x8)]) hx hb dX7_thickness_124 hl (k := 7) rfl (by rw [ex7_124]; rfl) (by decide) rfl (fun ls hl => ?_)
                  refine lv_goto (tgt := 56) hx hb dX7_thickness_127 (by decide) ?_
                  exact ih_56 (y + 1) _ _ (⟨by omega, by omega⟩) (by rw [ex7_124, h7y, nI_1]) (by have hzz := x_ge h8x h5z (by omega) (by omega) c_75; rw [show pl % C + z - x = 0 by omega, th_in] at hJ; rw [← hJ] at hI; exact hI) (by omega) _ _ _ (lv_sub hl [1, 2, 3, 4, 5, 6, 7, 0] rfl) hw
                · have hxl : x < pl % C + z := x_nge h8x h5z (by omega) (by omega) c_75
                  have hst2 : pl % C + z - x = (pl % C + z - (x + 1)) + 1 := by omega
                  rw [hst2, th_in] at hJ
                  have hcy : C * (y + 1) ≤ 36 := Nat.le_trans (Nat.mul_le_mul hC0 (show y + 1 ≤ 6 by omega)) (by decide)
                  rw [Nat.mul_add, Nat.mul_one] at hcy
                  refine lv_aload_n hx hb dX7_thickness_78 rfl (lv_at hl 0 rfl) ?_
                  refine xg_r hc hw 7 0 9 rfl rfl rfl rfl (by decide) (h7) ((hm 39 (by decide) (by decide)).2) mw_696 dX7_thickness_79 ?_
                  refine lv_bipush (v := 36) hx hb dX7_thickness_82 (by decide) ?_
                  refine lv_iload_n hx hb dX7_thickness_84 rfl (lv_at hl 1 rfl) ?_
                  refine lv_imul hx hb dX7_thickness_85 ?_
                  refine lv_aload_n hx hb dX7_thickness_86 rfl (lv_at hl 0 rfl) ?_
                  refine xg_r hc hw 7 0 7 rfl rfl rfl rfl (by decide) (h7) ((hm 37 (by decide) (by decide)).2) mw_694 dX7_thickness_87 ?_
                  refine lv_iload_n hx hb dX7_thickness_90 rfl (lv_at hl 1 rfl) ?_
                  refine xa_ld hc hw 37 0 sh rfl ((hm 37 (by decide) (by decide)).1) (rfl) (hsh) dX7_thickness_91 ?_
                  refine lv_iload hx hb dX7_thickness_92 (lv_at hl 7 rfl) ?_
                  refine lv_imul hx hb dX7_thickness_94 ?_
                  refine lv_iadd hx hb dX7_thickness_95 ?_
                  refine lv_iload hx hb dX7_thickness_96 (lv_at hl 8 rfl) ?_
                  refine lv_iadd hx hb dX7_thickness_98 ?_
                  refine xa_ld hc hw 39 0 (36 * sh + C * y + x) rfl ((hm 39 (by decide) (by decide)).1) (by rw [hC, h7y, h8x]; exact x_39) (by show _ < 1080; omega) dX7_thickness_99 ?_
                  refine lv_topi (fun x9_100 ex9_100 => ?_)
                  refine lv_istore (lv' := [(9, .int x9_100), (0, .ref (ad 7 0)), (1, .int (nI sh)), (2, .int (nI pl)), (3, .int (nI z)), (4, .int x4_8), (5, .int x5_18), (6, .int y6), (7, .int x7), (8, .int x8)]) hx hb dX7_thickness_100 hl (by decide) rfl (fun ls hl => ?_)
                  refine lv_iload hx hb dX7_thickness_102 (lv_at hl 0 rfl) ?_
                  refine lv_iload hx hb dX7_thickness_104 (lv_at hl 7 rfl) ?_
                  refine lv_icmp_ge (tgt := 114) hx hb dX7_thickness_106 (by decide) (fun c_106 => ?_) (fun c_106 => ?_)
                  · refine lv_iload hx hb dX7_thickness_114 (lv_at hl 7 rfl) ?_
                    refine lv_istore (lv' := [(6, .int y6), (9, .int x9_100), (0, .ref (ad 7 0)), (1, .int (nI sh)), (2, .int (nI pl)), (3, .int (nI z)), (4, .int x4_8), (5, .int x5_18), (7, .int x7), (8, .int x8)]) hx hb dX7_thickness_116 hl (by decide) rfl (fun ls hl => ?_)
                    obtain ⟨x8_118, ex8_118⟩ : ∃ y : Int32, y = x8 + 1 := ⟨_, rfl⟩
                    refine lv_iinc (v := x8_118) (lv' := [(8, .int x8_118), (6, .int y6), (9, .int x9_100), (0, .ref (ad 7 0)), (1, .int (nI sh)), (2, .int (nI pl)), (3, .int (nI z)), (4, .int x4_8), (5, .int x5_18), (7, .int x7)]) hx hb dX7_thickness_118 hl (k := 9) rfl (by rw [ex8_118]; rfl) (by decide) rfl (fun ls hl => ?_)
                    refine lv_goto (tgt := 69) hx hb dX7_thickness_121 (by decide) ?_
                    exact ih_69 (x + 1) _ _ (⟨by omega, by omega⟩) (by rw [ex8_118, h8x, nI_1]) (by first | (rw [if_pos (show (m_G σ sh C) y x < y6 by rw [m_G, ← ex9_100]; exact Int32.not_le.mp c_106)] at hJ; rw [ex9_100]; exact hJ) | (rw [if_neg (show ¬ (m_G σ sh C) y x < y6 by rw [m_G, ← ex9_100]; exact Int32.not_lt.mpr c_106)] at hJ; exact hJ)) (by omega) _ _ _ (lv_sub hl [3, 4, 5, 6, 7, 8, 1, 9, 0] rfl) hw
                  · refine lv_iload hx hb dX7_thickness_109 (lv_at hl 0 rfl) ?_
                    refine lv_goto (tgt := 116) hx hb dX7_thickness_111 (by decide) ?_
                    refine lv_istore (lv' := [(6, .int x9_100), (9, .int x9_100), (0, .ref (ad 7 0)), (1, .int (nI sh)), (2, .int (nI pl)), (3, .int (nI z)), (4, .int x4_8), (5, .int x5_18), (7, .int x7), (8, .int x8)]) hx hb dX7_thickness_116 hl (by decide) rfl (fun ls hl => ?_)
                    obtain ⟨x8_118, ex8_118⟩ : ∃ y : Int32, y = x8 + 1 := ⟨_, rfl⟩
                    refine lv_iinc (v := x8_118) (lv' := [(8, .int x8_118), (6, .int x9_100), (9, .int x9_100), (0, .ref (ad 7 0)), (1, .int (nI sh)), (2, .int (nI pl)), (3, .int (nI z)), (4, .int x4_8), (5, .int x5_18), (7, .int x7)]) hx hb dX7_thickness_118 hl (k := 9) rfl (by rw [ex8_118]; rfl) (by decide) rfl (fun ls hl => ?_)
                    refine lv_goto (tgt := 69) hx hb dX7_thickness_121 (by decide) ?_
                    exact ih_69 (x + 1) _ _ (⟨by omega, by omega⟩) (by rw [ex8_118, h8x, nI_1]) (by first | (rw [if_pos (show (m_G σ sh C) y x < y6 by rw [m_G, ← ex9_100]; exact Int32.not_le.mp c_106)] at hJ; rw [ex9_100]; exact hJ) | (rw [if_neg (show ¬ (m_G σ sh C) y x < y6 by rw [m_G, ← ex9_100]; exact Int32.not_lt.mpr c_106)] at hJ; exact hJ)) (by omega) _ _ _ (lv_sub hl [3, 4, 5, 6, 7, 8, 1, 9, 0] rfl) hw
            exact cut_69 _ (pl % C) _ _ (⟨Nat.le_refl _, Nat.le_add_right _ _⟩) (h5) (by rw [Nat.add_sub_cancel_left]) (Nat.lt_succ_self _) _ _ _ (lv_sub hl [1, 2, 3, 4, 5, 6, 7, 8, 0] rfl) hw
      exact cut_56 _ (pl / C) _ _ (⟨Nat.le_refl _, Nat.le_add_right _ _⟩) (h4) (by rw [Nat.add_sub_cancel_left]) (Nat.lt_succ_self _) _ _ _ (lv_sub hl [4, 5, 6, 7, 3, 2, 1, 0] rfl) hw
    · exact cut_46 (Or.inr (x_nle2 h5z hC (by omega) (by omega) c_43)) _ _ _ (lv_sub hl [2, 3, 4, 5] rfl) hw
/-- X7_taken -/
def q_X7_taken (σ : x_St) (sh pl z C kk : Nat) : Int32 → x_St → Prop := fun r σ' => σ' = σ ∧ r = m_oi (m_tn C pl kk z)
set_option maxHeartbeats 4000000 in
set_option maxRecDepth 100000 in
theorem c_X7_taken {l : Launch} {D : va_G} {cs : Nat → ClassId} {base : Nat} {ad : Nat → Nat → Nat} {n st : Nat → Nat} {σ : x_St} (sh pl z C : Nat) (hsh : sh < 30) (hC : σ 37 0 sh = nI C) (hC1 : 1 ≤ C) (hC0 : C ≤ 6) (hpl : pl < 36) (hz : z ≤ 3) (kk : Nat) (hk : kk < 4096) (h7 : 0 < n 7) (hm : ∀ k, 36 ≤ k → k < 70 → 0 < n k ∧ 0 < st (100 + k)) : x_Ci l yX7_taken cX7_taken 9 (some .int) 1 0 0 D cs base ad n st σ [.ref (ad 7 0), .int (nI sh), .int (nI pl), .int (nI kk), .int (nI z)] (q_X7_taken σ sh pl z C kk) (fun σ' => x_U D cs base ad n st σ') := by
  refine Met.ofW (cc := cX7_taken) (maxL := 9) (ret := some .int) (by decide) rfl ?_
  intro p e s m args below meth c s₁ B hml hv
  obtain ⟨rfl, hU⟩ := hv
  have hx := B.exec
  have hb := B.bytes
  have hr := B.returns
  have hts := atoms_spec (ws := Cond.code yX7_taken cX7_taken 9 (some .int) :: Tw) B.pre
  have hown : s.vm.findClass RX7 = some m.cls := findClass_of_methodNamed B.named
  have hlocks := B.notSynchronized
  have hc : CallFix p m c cX7_taken 9 s (([.ref (ad 7 0), .int (nI sh), .int (nI pl), .int (nI kk), .int (nI z)] : List Value).toArray) Tw RX7 := ⟨hx, hb, hml, hown, fun w hw => hts w (List.mem_cons_of_mem _ hw)⟩
  have hw := x_B.start hU
  have hl := lv_entry ([.ref (ad 7 0), .int (nI sh), .int (nI pl), .int (nI kk), .int (nI z)]) (n := 9) (Nat.le_of_ble_eq_true rfl)
  rw [lg_entry_eq]
  generalize (lg_sl ([.ref (ad 7 0), .int (nI sh), .int (nI pl), .int (nI kk), .int (nI z)]) ++ List.replicate (9 - (lg_sl ([.ref (ad 7 0), .int (nI sh), .int (nI pl), .int (nI kk), .int (nI z)])).length) Slot.unset).toArray = ls at hl ⊢
  have hl : lv_has ls 9 [(0, .ref (ad 7 0)), (1, .int (nI sh)), (2, .int (nI pl)), (3, .int (nI kk)), (4, .int (nI z))] := hl
  show W p l e (x_rm 1 0 0) s m ([.ref (ad 7 0), .int (nI sh), .int (nI pl), .int (nI kk), .int (nI z)] : List Value).toArray below meth c s.heap [] 0 0 (MQ below (va_Qi (q_X7_taken σ sh pl z C kk) (fun σ' => x_U D cs base ad n st σ') (x_A base)) ([.ref (ad 7 0), .int (nI sh), .int (nI pl), .int (nI kk), .int (nI z)] : List Value).toArray s 0 0 (x_A base)) (F0 m 0 ls [])
  refine lv_iload_n hx hb dX7_taken_0 rfl (lv_at hl 2 rfl) ?_
  refine lv_aload_n hx hb dX7_taken_1 rfl (lv_at hl 0 rfl) ?_
  refine xg_r hc hw 7 0 7 rfl rfl rfl rfl (by decide) (h7) ((hm 37 (by decide) (by decide)).2) mw_694 dX7_taken_2 ?_
  refine lv_iload_n hx hb dX7_taken_5 rfl (lv_at hl 1 rfl) ?_
  refine xa_ld hc hw 37 0 sh rfl ((hm 37 (by decide) (by decide)).1) (rfl) (hsh) dX7_taken_6 ?_
  refine lv_irem hx hb dX7_taken_7 (by rw [hC]; exact nI_ne0 (by omega) (by omega)) ?_
  refine lv_topi (fun x5_8 ex5_8 => ?_)
  refine lv_istore (lv' := [(5, .int x5_8), (0, .ref (ad 7 0)), (1, .int (nI sh)), (2, .int (nI pl)), (3, .int (nI kk)), (4, .int (nI z))]) hx hb dX7_taken_8 hl (by decide) rfl (fun ls hl => ?_)
  have h5 : x5_8 = nI (pl % C) := (by rw [ex5_8, hC, pk_rem (by omega) (by omega) (by omega)])
  have hpc : pl % C < C := Nat.mod_lt _ (by omega)
  refine lv_iload_n hx hb dX7_taken_10 rfl (lv_at hl 4 rfl) ?_
  refine lv_iconst (v := 2) hx hb dX7_taken_11 (by decide) ?_
  refine lv_iload hx hb dX7_taken_12 (lv_at hl 0 rfl) ?_
  refine lv_imul hx hb dX7_taken_14 ?_
  refine lv_ishr hx hb dX7_taken_15 ?_
  refine lv_iconst (v := 3) hx hb dX7_taken_16 (by decide) ?_
  refine lv_iand hx hb dX7_taken_17 ?_
  refine lv_topi (fun x6_18 ex6_18 => ?_)
  refine lv_istore (lv' := [(6, .int x6_18), (5, .int x5_8), (0, .ref (ad 7 0)), (1, .int (nI sh)), (2, .int (nI pl)), (3, .int (nI kk)), (4, .int (nI z))]) hx hb dX7_taken_18 hl (by decide) rfl (fun ls hl => ?_)
  have h6 : x6_18 = nI (m_dg kk (pl % C)) := (by rw [ex6_18, h5]; exact bq_dg (by omega) (by omega))
  have hd4 : m_dg kk (pl % C) < 4 := Nat.mod_lt _ (by decide)
  refine lv_iload hx hb dX7_taken_20 (lv_at hl 0 rfl) ?_
  refine lv_if_le (tgt := 43) hx hb dX7_taken_22 (by decide) (fun c_22 => ?_) (fun c_22 => ?_)
  · have hown : ¬ 0 < m_dg kk (pl % C) := fun q => absurd c_22 (by rw [h6]; exact nI_nle q (by omega))
    refine lv_iload hx hb dX7_taken_43 (lv_at hl 6 rfl) ?_
    refine lv_if_ne (tgt := 50) hx hb dX7_taken_45 (by decide) (fun c_45 => ?_) (fun c_45 => ?_)
    · have hz1 : ¬ z = 0 := fun q => c_45 (by rw [q]; rfl)
      have h5z : x5_8 + nI z = nI (pl % C + z) := (by rw [h5, nI_add])
      refine lv_iload_n hx hb dX7_taken_50 rfl (lv_at hl 5 rfl) ?_
      refine lv_topi (fun x7_51 ex7_51 => ?_)
      refine lv_istore (lv' := [(7, .int x7_51), (6, .int x6_18), (5, .int x5_8), (0, .ref (ad 7 0)), (1, .int (nI sh)), (2, .int (nI pl)), (3, .int (nI kk)), (4, .int (nI z))]) hx hb dX7_taken_51 hl (by decide) rfl (fun ls hl => ?_)
      refine lv_iload hx hb dX7_taken_53 (lv_at hl 2 rfl) ?_
      refine lv_istore (lv' := [(8, .int x5_8), (7, .int x7_51), (6, .int x6_18), (5, .int x5_8), (0, .ref (ad 7 0)), (1, .int (nI sh)), (2, .int (nI pl)), (3, .int (nI kk)), (4, .int (nI z))]) hx hb dX7_taken_55 hl (by decide) rfl (fun ls hl => ?_)
      have cut_57 : ∀ (N : Nat) (x : Nat) (v : Nat) (x7 : Int32) (x8 : Int32), (pl % C ≤ x ∧ x ≤ pl % C + z) → (x8 = nI x) → (x7 = nI v) → (v / 4 ^ x = kk / 4 ^ x) → (x = pl % C ∨ 4 ^ (pl % C) ≤ v) → (m_ti kk z (pl % C + z - x) x v = m_ti kk z z (pl % C) kk) → (pl % C + z - x < N) → ∀ (H : Heap) (locs : List Loc) (ls : Array Slot), lv_has ls 9 [(0, .ref (ad 7 0)), (1, .int (nI sh)), (2, .int (nI pl)), (3, .int (nI kk)), (4, .int (nI z)), (5, .int x5_8), (7, .int x7), (8, .int x8)] → x_B D cs base ad n st σ s H locs → W p l e (x_rm 1 0 0) s m ([.ref (ad 7 0), .int (nI sh), .int (nI pl), .int (nI kk), .int (nI z)] : List Value).toArray below meth c H locs 0 0 (MQ below (va_Qi (q_X7_taken σ sh pl z C kk) (fun σ' => x_U D cs base ad n st σ') (x_A base)) ([.ref (ad 7 0), .int (nI sh), .int (nI pl), .int (nI kk), .int (nI z)] : List Value).toArray s 0 0 (x_A base)) (F0 m 57 ls []) := by
        intro N
        induction N with
        | zero => intro x v x7 x8 hx9 h8x h7v hv hv4 hI hN; exact absurd hN (Nat.not_lt_zero _)
        | succ N ih_57 =>
          intro x v x7 x8 hx9 h8x h7v hv hv4 hI hN H locs ls hl hw
          refine lv_iload hx hb dX7_taken_57 (lv_at hl 7 rfl) ?_
          refine lv_iload hx hb dX7_taken_59 (lv_at hl 5 rfl) ?_
          refine lv_iload hx hb dX7_taken_61 (lv_at hl 4 rfl) ?_
          refine lv_iadd hx hb dX7_taken_63 ?_
          refine lv_icmp_ge (tgt := 98) hx hb dX7_taken_64 (by decide) (fun c_64 => ?_) (fun c_64 => ?_)
          · refine lv_iload hx hb dX7_taken_98 (lv_at hl 6 rfl) ?_
            refine lv_iconst (v := 1) hx hb dX7_taken_100 (by decide) ?_
            refine lv_iconst (v := 2) hx hb dX7_taken_101 (by decide) ?_
            refine lv_iload hx hb dX7_taken_102 (lv_at hl 5 rfl) ?_
            refine lv_imul hx hb dX7_taken_104 ?_
            refine lv_ishl hx hb dX7_taken_105 ?_
            refine lv_isub hx hb dX7_taken_106 ?_
            exact xr_i hc hlocks hr rfl hw (⟨rfl, by have hzz := x_ge h8x h5z (by omega) (by omega) c_64; rw [show pl % C + z - x = 0 by omega, m_ti] at hI; rw [m_tn, if_neg hown, if_neg hz1, ← hI, h7v, h5, bq_1 (by omega)]; exact pk_sub (by omega)⟩) (Nat.le_of_ble_eq_true rfl) (Nat.le_of_ble_eq_true rfl) dX7_taken_107
          · have hxl : x < pl % C + z := x_nge h8x h5z (by omega) (by omega) c_64
            have hst : pl % C + z - x = (pl % C + z - (x + 1)) + 1 := by omega
            rw [hst, m_ti] at hI
            have hdg : (nI kk >>> ((2 * x8) &&& 31)) &&& 3 = nI (m_dg kk x) := (by rw [h8x]; exact bq_dg (by omega) (by omega))
            have hd4x : m_dg kk x < 4 := Nat.mod_lt _ (by decide)
            refine lv_iload_n hx hb dX7_taken_67 rfl (lv_at hl 3 rfl) ?_
            refine lv_iconst (v := 2) hx hb dX7_taken_68 (by decide) ?_
            refine lv_iload hx hb dX7_taken_69 (lv_at hl 7 rfl) ?_
            refine lv_imul hx hb dX7_taken_71 ?_
            refine lv_ishr hx hb dX7_taken_72 ?_
            refine lv_iconst (v := 3) hx hb dX7_taken_73 (by decide) ?_
            refine lv_iand hx hb dX7_taken_74 ?_
            refine lv_if_eq (tgt := 80) hx hb dX7_taken_75 (by decide) (fun c_75 => ?_) (fun c_75 => ?_)
            · have hd0 : m_dg kk x = 0 := (nI_eq (by omega) (by decide)).mp (show nI (m_dg kk x) = nI 0 from hdg.symm.trans c_75)
              rw [if_pos hd0] at hI
              refine lv_iload hx hb dX7_taken_80 (lv_at hl 6 rfl) ?_
              refine lv_iload hx hb dX7_taken_82 (lv_at hl 4 rfl) ?_
              refine lv_iconst (v := 2) hx hb dX7_taken_84 (by decide) ?_
              refine lv_iload hx hb dX7_taken_85 (lv_at hl 7 rfl) ?_
              refine lv_imul hx hb dX7_taken_87 ?_
              refine lv_ishl hx hb dX7_taken_88 ?_
              refine lv_ior hx hb dX7_taken_89 ?_
              refine lv_topi (fun x7_90 ex7_90 => ?_)
              refine lv_istore (lv' := [(7, .int x7_90), (0, .ref (ad 7 0)), (1, .int (nI sh)), (2, .int (nI pl)), (3, .int (nI kk)), (4, .int (nI z)), (5, .int x5_8), (8, .int x8)]) hx hb dX7_taken_90 hl (by decide) rfl (fun ls hl => ?_)
              obtain ⟨x8_92, ex8_92⟩ : ∃ y : Int32, y = x8 + 1 := ⟨_, rfl⟩
              refine lv_iinc (v := x8_92) (lv' := [(8, .int x8_92), (7, .int x7_90), (0, .ref (ad 7 0)), (1, .int (nI sh)), (2, .int (nI pl)), (3, .int (nI kk)), (4, .int (nI z)), (5, .int x5_8)]) hx hb dX7_taken_92 hl (k := 7) rfl (by rw [ex8_92]; rfl) (by decide) rfl (fun ls hl => ?_)
              refine lv_goto (tgt := 57) hx hb dX7_taken_95 (by decide) ?_
              exact ih_57 (x + 1) (v + z * 4 ^ x) _ _ (⟨by omega, by omega⟩) (by rw [ex8_92, h8x, nI_1]) (by rw [ex7_90, h7v, h8x, bq_shl (by omega) (by omega)]; exact bq_or (by rw [hv]; exact hd0) (by omega)) (bq_up hv hd0 (by omega)) (Or.inr (Or.elim hv4 (fun q => by rw [q]; exact Nat.le_trans (Nat.le_mul_of_pos_left _ (by omega)) (Nat.le_add_left _ _)) (fun q => Nat.le_trans q (Nat.le_add_right _ _)))) (hI) (by omega) _ _ _ (lv_sub hl [2, 3, 4, 5, 6, 7, 1, 0] rfl) hw
            · rw [if_neg (fun q : m_dg kk x = 0 => c_75 (by rw [hdg, q]; rfl))] at hI
              refine lv_iconst (v := (-1)) hx hb dX7_taken_78 (by decide) ?_
              exact xr_i hc hlocks hr rfl hw (⟨rfl, by rw [m_tn, if_neg hown, if_neg hz1, ← hI]; rfl⟩) (Nat.le_of_ble_eq_true rfl) (Nat.le_of_ble_eq_true rfl) dX7_taken_79
      exact cut_57 _ (pl % C) kk _ _ (⟨Nat.le_refl _, Nat.le_add_right _ _⟩) (h5) (ex7_51) (rfl) (Or.inl rfl) (by rw [Nat.add_sub_cancel_left]) (Nat.lt_succ_self _) _ _ _ (lv_sub hl [4, 5, 6, 7, 8, 3, 1, 0] rfl) hw
    · have hz0 : z = 0 := (nI_eq (by omega) (by decide)).mp (show nI z = nI 0 from c_45)
      refine lv_iload_n hx hb dX7_taken_48 rfl (lv_at hl 5 rfl) ?_
      exact xr_i hc hlocks hr rfl hw (⟨rfl, by rw [m_tn, if_neg hown, if_pos hz0]; rfl⟩) (Nat.le_of_ble_eq_true rfl) (Nat.le_of_ble_eq_true rfl) dX7_taken_49
  · have hown : 0 < m_dg kk (pl % C) := x_npos h6 c_22
    refine lv_iload hx hb dX7_taken_25 (lv_at hl 6 rfl) ?_
    refine lv_if_ne (tgt := 41) hx hb dX7_taken_27 (by decide) (fun c_27 => ?_) (fun c_27 => ?_)
    · have hz1 : ¬ z = 0 := fun q => c_27 (by rw [q]; rfl)
      refine lv_iconst (v := (-1)) hx hb dX7_taken_41 (by decide) ?_
      exact xr_i hc hlocks hr rfl hw (⟨rfl, by rw [m_tn, if_pos hown, if_neg hz1]; rfl⟩) (Nat.le_of_ble_eq_true rfl) (Nat.le_of_ble_eq_true rfl) dX7_taken_42
    · have hz0 : z = 0 := (nI_eq (by omega) (by decide)).mp (show nI z = nI 0 from c_27)
      refine lv_iload_n hx hb dX7_taken_30 rfl (lv_at hl 5 rfl) ?_
      refine lv_iconst (v := 1) hx hb dX7_taken_31 (by decide) ?_
      refine lv_iconst (v := 2) hx hb dX7_taken_32 (by decide) ?_
      refine lv_iload hx hb dX7_taken_33 (lv_at hl 1 rfl) ?_
      refine lv_imul hx hb dX7_taken_35 ?_
      refine lv_ishl hx hb dX7_taken_36 ?_
      refine lv_isub hx hb dX7_taken_37 ?_
      refine lv_goto (tgt := 42) hx hb dX7_taken_38 (by decide) ?_
      exact xr_i hc hlocks hr rfl hw (⟨rfl, by rw [m_tn, if_pos hown, if_pos hz0, h5, bq_1 (by omega)]; exact pk_sub (bq_own hown)⟩) (Nat.le_of_ble_eq_true rfl) (Nat.le_of_ble_eq_true rfl) dX7_taken_42
