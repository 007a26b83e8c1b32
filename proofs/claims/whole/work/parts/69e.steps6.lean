/-- a cut stays right where the shell's own squares stay -/
theorem th_cong6 {G G' : Nat → Nat → Int32} {R C p z : Nat} (h : ∀ y x, y < R → x < C → G y x = G' y x) : m_th G R C p z = m_th G' R C p z := by
  rw [m_th, m_th]
  by_cases q : R < p / C + z ∨ C < p % C + z
  · rw [if_pos q, if_pos q]
  · rw [if_neg q, if_neg q]
    exact th_out_cong z _ 9 (fun y x q1 q2 q3 q4 => h y x (by omega) (by omega))
theorem f_cu_cg {σ σ' : x_St} {i R C : Nat} (hR : R ≤ 6) (hC : C ≤ 6) (hC1 : 1 ≤ C) (h39 : ∀ q, q < 36 → σ' 39 0 (36 * i + q) = σ 39 0 (36 * i + q)) (h41 : ∀ b d, σ' 41 b d = σ 41 b d) (h16 : ∀ d, σ' 16 i d = σ 16 i d) (h17 : ∀ d, σ' 17 i d = σ 17 i d) (h7 : σ' 5 i 7 = σ 5 i 7) (h8 : σ' 5 i 8 = σ 5 i 8) (h : f_cu σ i R C) : f_cu σ' i R C := by
  have hG : ∀ y x, y < R → x < C → m_G σ' i C y x = m_G σ i C y x := fun y x hy hx => by
    show σ' 39 0 (36 * i + C * y + x) = σ 39 0 (36 * i + C * y + x)
    have := Nat.mul_le_mul hC (show y + 1 ≤ 6 by omega)
    rw [Nat.mul_add, Nat.mul_one] at this
    rw [Nat.add_assoc]
    exact h39 _ (by omega)
  have hth : ∀ p z, m_th (m_G σ' i C) R C p z = m_th (m_G σ i C) R C p z := fun p z => th_cong6 hG
  have e2 : ca_G σ' i R C = ca_G σ i R C := by funext p n; unfold ca_G; rw [hth, h41]
  have e3 : ∀ T, ca_w σ' i R C T = ca_w σ i R C T := fun T => by funext p; unfold ca_w; rw [hth, h41]
  have e4 : cu_T σ' i R C = cu_T σ i R C := by unfold cu_T; rw [e2]
  obtain ⟨a, b, c, d⟩ := h
  refine ⟨fun p hp => ?_, fun p hp => ?_, ?_, ?_⟩
  · rw [h16, e4]; exact a p hp
  · rw [h17, e4, hth]; exact b p hp
  · rw [h7, e4, e3]; exact c
  · rw [h8, e4]; exact d
/-- no shell has come: what lies behind the last one counts for nothing -/
theorem Rl.nosh {σ v : x_St} {nS nB nC nO N : Nat} (hh : Rl σ nS nB nC nO N) (hvk : ∀ a' b' d', ¬ ((a' = 5 ∨ (15 ≤ a' ∧ a' ≤ 17)) ∧ b' = nS) → ¬ (a' = 19 ∨ a' = 39) → ¬ (a' = 7 ∧ d' = 0) → v a' b' d' = σ a' b' d') (hv39o : ∀ q, q < 36 * nS → v 39 0 q = σ 39 0 q) : Rl v nS nB nC nO (N + 1) := by
  have ek : ∀ a' b' d', a' = 0 ∨ a' = 1 ∨ a' = 2 ∨ a' = 3 ∨ a' = 4 ∨ a' = 6 ∨ a' = 10 ∨ a' = 11 ∨ a' = 18 ∨ (36 ≤ a' ∧ a' ≤ 38) ∨ (40 ≤ a' ∧ a' ≤ 67) → v a' b' d' = σ a' b' d' := fun a' b' d' q => hvk a' b' d' (by omega) (by omega) (by omega)
  have e5 : ∀ j q, j < nS → v 5 j q = σ 5 j q := fun j q hj => hvk 5 j q (by omega) (by omega) (by omega)
  refine ⟨hh.K.mv (fun d _ => ek 6 0 d (by omega)) (fun d _ => hvk 7 0 d (by omega) (by omega) (by omega)), ?_, hh.B.mv (fun a' b' d' q => ek a' b' d' (by omega)) (ek 6 0 12 (by omega)), hh.M.mv (fun a' b' d' q => ek a' b' d' (by omega)), hh.C.mv (fun a' b' d' q => ek a' b' d' (by omega)), hh.O.mv (fun a' b' d' q => ek a' b' d' (by omega))⟩
  obtain ⟨ql, l1, l2, l3⟩ := hh.S.l
  have hRC : ∀ i, i < nS → x_c (σ 5 i 0) ≤ 6 ∧ 1 ≤ x_c (σ 5 i 1) ∧ x_c (σ 5 i 1) ≤ 6 := fun i hi => by
    obtain ⟨R, _, R6, eR⟩ := hh.S.r i hi
    obtain ⟨C, C1, C6, eC⟩ := hh.S.c i hi
    rw [eR, eC, x_cn (by omega), x_cn (by omega)]
    exact ⟨R6, C1, C6⟩
  refine ⟨?_, ?_, ?_, ?_, ?_, ?_, ?_, ?_, ?_, ?_, ?_, ⟨?_, ?_⟩, ?_, ?_⟩
  · intro i hi; rw [e5 i 0 hi, ek 36 0 i (by omega)]; exact hh.S.e0 i hi
  · intro i hi; rw [e5 i 1 hi, ek 37 0 i (by omega)]; exact hh.S.e1 i hi
  · intro i hi; rw [e5 i 2 hi, ek 38 0 i (by omega)]; exact hh.S.e2 i hi
  · intro i hi; rw [e5 i 4 hi, ek 40 0 i (by omega)]; exact hh.S.e4 i hi
  · intro i hi h2; rw [ek 40 0 i (by omega)]; exact hh.S.z4 i hi h2
  · intro i hi; rw [e5 i 2 hi]; exact hh.S.i2 i hi
  · intro i hi; rw [e5 i 0 hi]; exact hh.S.r i hi
  · intro i hi; rw [e5 i 1 hi]; exact hh.S.c i hi
  · intro i y x hi
    rw [e5 i 0 hi, e5 i 1 hi, hvk 15 i _ (by omega) (by omega) (by omega)]
    intro hy hx
    obtain ⟨R6, _, C6⟩ := hRC i hi
    have := Nat.mul_le_mul C6 (show y + 1 ≤ 6 by omega)
    rw [Nat.mul_add, Nat.mul_one] at this
    rw [hv39o _ (by omega)]
    exact hh.S.g i y x hi hy hx
  · intro i y x hi
    rw [e5 i 0 hi, e5 i 1 hi, hvk 15 i _ (by omega) (by omega) (by omega)]
    exact hh.S.g0 i y x hi
  · intro d' hd'; rw [ek 41 0 d' (by omega), ek 11 0 d' (by omega)]; exact hh.S.w d' hd'
  · intro d' hd'; rw [ek 11 0 d' (by omega)]; exact hh.S.wk.1 d' hd'
  · intro z z1 z3; rw [ek 11 0 _ (by omega)]; exact hh.S.wk.2 z z1 z3
  · rw [ek 2 0 1 (by omega)]
    exact ⟨ql, by omega, l2, fun i hi => by rw [e5 i 9 hi]; exact l3 i hi⟩
  · intro i hi
    rw [ek 2 0 1 (by omega), e5 i 9 hi, e5 i 0 hi, e5 i 1 hi]
    intro w
    obtain ⟨R6, C1, C6⟩ := hRC i hi
    exact f_cu_cg R6 C6 C1 (fun q hq => hv39o _ (by omega)) (fun b' d' => ek 41 b' d' (by omega)) (fun d' => hvk 16 i d' (by omega) (by omega) (by omega)) (fun d' => hvk 17 i d' (by omega) (by omega) (by omega)) (e5 i 7 hi) (e5 i 8 hi) (hh.S.p i hi w)
theorem tk_bv (x : BitVec 32) (n : Nat) (hn : n ≤ 20) : (x >>> n) &&& 15#32 = (x.sshiftRight n) &&& 15#32 := by
  apply BitVec.eq_of_getLsbD_eq
  intro i hi
  rw [BitVec.getLsbD_and, BitVec.getLsbD_and]
  by_cases h4 : i < 4
  · rw [BitVec.getLsbD_ushiftRight, BitVec.getLsbD_sshiftRight]
    simp [show n + i < 32 by omega, show ¬ 32 ≤ i by omega]
  · have : (15#32).getLsbD i = false := by
      have h15 : ∀ j, j < 32 → ¬ j < 4 → (15#32).getLsbD j = false := by decide
      exact h15 i hi h4
    rw [this, Bool.and_false, Bool.and_false]
theorem tk_eq (v : Int32) (c : Nat) (hc : c < 6) : f_tk v c = m_tk v (nI c) := by
  apply Int32.toBitVec_inj.1
  have : c = 0 ∨ c = 1 ∨ c = 2 ∨ c = 3 ∨ c = 4 ∨ c = 5 := by omega
  rcases this with rfl | rfl | rfl | rfl | rfl | rfl
  · exact tk_bv v.toBitVec 0 (by decide)
  · exact tk_bv v.toBitVec 4 (by decide)
  · exact tk_bv v.toBitVec 8 (by decide)
  · exact tk_bv v.toBitVec 12 (by decide)
  · exact tk_bv v.toBitVec 16 (by decide)
  · exact tk_bv v.toBitVec 20 (by decide)
theorem tk_nI (v : Int32) (c : Nat) : ∃ t, t < 16 ∧ f_tk v c = nI t := by
  refine ⟨(f_tk v c).toBitVec.toNat, ?_, ?_⟩
  · have : (f_tk v c).toBitVec = (v.toUInt32 >>> ((4 * nI c).toUInt32 &&& Int32.toUInt32 31)).toInt32.toBitVec &&& 15#32 := rfl
    rw [this, BitVec.toNat_and]
    exact Nat.lt_of_le_of_lt Nat.and_le_right (by decide)
  · apply Int32.toBitVec_inj.1
    show _ = BitVec.ofNat 32 _
    simp
theorem f_pi_s {i r : Nat} {v : Int32} : ∀ (f c : Nat) (σ : x_St), ((f_pi i r v f c σ).1 = true ↔ ∀ x, c ≤ x → x < c + f → f_tk v x ≤ 9) ∧ (∀ j q, ¬ j = i → (f_pi i r v f c σ).2 15 j q = σ 15 j q) ∧ ((f_pi i r v f c σ).1 = true → ∀ q, (f_pi i r v f c σ).2 15 i q = if 6 * r + c ≤ q ∧ q < 6 * r + c + f then f_tk v (q - 6 * r) else σ 15 i q)
  | 0, c, σ => ⟨⟨fun _ x h1 h2 => by omega, fun _ => rfl⟩, fun _ _ _ => rfl, fun _ q => by rw [if_neg (by omega)]; rfl⟩
  | f + 1, c, σ => by
    rw [f_pi]
    by_cases h : f_tk v c ≤ 9
    · rw [if_pos h]
      obtain ⟨i1, i2, i3⟩ := f_pi_s (i := i) (r := r) (v := v) f (c + 1) (x_up σ 15 i (6 * r + c) (f_tk v c))
      refine ⟨⟨fun q x h1 h2 => ?_, fun q => i1.mpr (fun x h1 h2 => q x (by omega) (by omega))⟩, fun j q hj => by rw [i2 j q hj, x_up_n (by omega)], fun q p => ?_⟩
      · by_cases e : x = c
        · rw [e]; exact h
        · exact i1.mp q x (by omega) (by omega)
      · rw [i3 q p]
        by_cases e : p = 6 * r + c
        · rw [if_neg (by omega), if_pos (by omega), e, x_up_s, show 6 * r + c - 6 * r = c by omega]
        · by_cases e2 : 6 * r + (c + 1) ≤ p ∧ p < 6 * r + (c + 1) + f
          · rw [if_pos e2, if_pos (by omega)]
          · rw [if_neg e2, if_neg (by omega), x_up_n (by omega)]
    · rw [if_neg h]
      exact ⟨⟨fun q => absurd (show false = true from q) (by decide), fun q => absurd (q c (Nat.le_refl _) (by omega)) h⟩, fun _ _ _ => rfl, fun q => absurd (show false = true from q) (by decide)⟩
theorem f_po_s {i C : Nat} (hC : C ≤ 6) : ∀ (f r : Nat) (σ : x_St), ((f_po i C f r σ).1 = true ↔ ∀ y x, r ≤ y → y < r + f → x < C → f_tk (σ 19 0 y) x ≤ 9) ∧ (∀ j q, ¬ j = i → (f_po i C f r σ).2 15 j q = σ 15 j q) ∧ ((f_po i C f r σ).1 = true → ∀ y x, x < 6 → (f_po i C f r σ).2 15 i (6 * y + x) = if (r ≤ y ∧ y < r + f) ∧ x < C then f_tk (σ 19 0 y) x else σ 15 i (6 * y + x))
  | 0, r, σ => ⟨⟨fun _ y x h1 h2 => by omega, fun _ => rfl⟩, fun _ _ _ => rfl, fun _ y x _ => by rw [if_neg (by omega)]; rfl⟩
  | f + 1, r, σ => by
    rw [f_po]
    obtain ⟨p1, p2, p3⟩ := f_pi_s (i := i) (r := r) (v := σ 19 0 r) C 0 σ
    have k19 : ∀ y, (f_pi i r (σ 19 0 r) C 0 σ).2 19 0 y = σ 19 0 y := fun y => f_pi_k i r _ _ _ _ 19 0 y (by decide)
    by_cases h : (f_pi i r (σ 19 0 r) C 0 σ).1 = true
    · rw [if_pos h]
      obtain ⟨i1, i2, i3⟩ := f_po_s (i := i) hC f (r + 1) (f_pi i r (σ 19 0 r) C 0 σ).2
      simp only [k19] at i1 i3
      refine ⟨⟨fun q y x h1 h2 h3 => ?_, fun q => i1.mpr (fun y x h1 h2 h3 => q y x (by omega) (by omega) h3)⟩, fun j q hj => by rw [i2 j q hj, p2 j q hj], fun q y x hx => ?_⟩
      · by_cases e : y = r
        · rw [e]; exact p1.mp h x (by omega) (by omega)
        · exact i1.mp q y x (by omega) (by omega) h3
      · rw [i3 q y x hx, p3 h]
        by_cases e : y = r
        · subst e
          rw [if_neg (by omega)]
          by_cases e2 : x < C
          · rw [if_pos (by omega), if_pos (by omega), show 6 * y + x - 6 * y = x by omega]
          · rw [if_neg (by omega), if_neg (by omega)]
        · rw [if_neg (show ¬ (6 * r + 0 ≤ 6 * y + x ∧ 6 * y + x < 6 * r + 0 + C) by omega)]
          by_cases e2 : (r + 1 ≤ y ∧ y < r + 1 + f) ∧ x < C
          · rw [if_pos e2, if_pos (by omega)]
          · rw [if_neg e2, if_neg (by omega)]
    · rw [if_neg h]
      refine ⟨⟨fun q => absurd (show false = true from q) (by decide), fun q => absurd (p1.mpr (fun x h1 h2 => q r x (Nat.le_refl _) (by omega) (by omega))) h⟩, p2, fun q => absurd (show false = true from q) (by decide)⟩
theorem m_pi_s {nS C r : Nat} {v : Int32} : ∀ (f c : Nat) (σ : x_St) (k : Int32), (k = 0 ∨ k = 1) → ((m_pi nS C r v f c σ k).1 = 0 ∨ (m_pi nS C r v f c σ k).1 = 1) ∧ ((m_pi nS C r v f c σ k).1 = 1 ↔ k = 1 ∧ ∀ x, c ≤ x → x < c + f → m_tk v (nI x) ≤ 9) ∧ (∀ a b d, ¬ a = 39 → (m_pi nS C r v f c σ k).2 a b d = σ a b d) ∧ ∀ q, (m_pi nS C r v f c σ k).2 39 0 q = if 36 * nS + C * r + c ≤ q ∧ q < 36 * nS + C * r + c + f then m_tk v (nI (q - (36 * nS + C * r))) else σ 39 0 q
  | 0, c, σ, k, hk => ⟨hk, ⟨fun h => ⟨h, fun x h1 h2 => by omega⟩, fun h => h.1⟩, fun _ _ _ _ => rfl, fun q => by rw [if_neg (by omega)]; rfl⟩
  | f + 1, c, σ, k, hk => by
    rw [m_pi]
    have hk2 : (if ¬ k = 0 ∧ m_tk v (nI c) ≤ 9 then (1 : Int32) else 0) = 0 ∨ (if ¬ k = 0 ∧ m_tk v (nI c) ≤ 9 then (1 : Int32) else 0) = 1 := by
      split
      · exact Or.inr rfl
      · exact Or.inl rfl
    have hk1 : (if ¬ k = 0 ∧ m_tk v (nI c) ≤ 9 then (1 : Int32) else 0) = 1 ↔ k = 1 ∧ m_tk v (nI c) ≤ 9 := by
      by_cases q : ¬ k = 0 ∧ m_tk v (nI c) ≤ 9
      · rw [if_pos q]; exact ⟨fun _ => ⟨hk.resolve_left q.1, q.2⟩, fun _ => rfl⟩
      · rw [if_neg q]; exact ⟨fun w => absurd w (by decide), fun w => absurd ⟨by rw [w.1]; decide, w.2⟩ q⟩
    obtain ⟨i0, i1, i2, i3⟩ := m_pi_s (nS := nS) (C := C) (r := r) (v := v) f (c + 1) (x_up σ 39 0 (36 * nS + C * r + c) (m_tk v (nI c))) _ hk2
    refine ⟨i0, ?_, fun a b d q => by rw [i2 a b d q, x_up_n (by omega)], fun q => ?_⟩
    · rw [i1, hk1]
      constructor
      · rintro ⟨⟨a1, a2⟩, a3⟩
        refine ⟨a1, fun x h1 h2 => ?_⟩
        by_cases e : x = c
        · rw [e]; exact a2
        · exact a3 x (by omega) (by omega)
      · rintro ⟨a1, a2⟩
        exact ⟨⟨a1, a2 c (Nat.le_refl _) (by omega)⟩, fun x h1 h2 => a2 x (by omega) (by omega)⟩
    · rw [i3 q]
      by_cases e : q = 36 * nS + C * r + c
      · rw [if_neg (by omega), if_pos (by omega), e, x_up_s, show 36 * nS + C * r + c - (36 * nS + C * r) = c by omega]
      · by_cases e2 : 36 * nS + C * r + (c + 1) ≤ q ∧ q < 36 * nS + C * r + (c + 1) + f
        · rw [if_pos e2, if_pos (by omega)]
        · rw [if_neg e2, if_neg (by omega), x_up_n (by omega)]
theorem m_po_s {e0 e1 e2 e3 e4 e5 : Int32} {nS C : Nat} : ∀ (f r : Nat) (σ : x_St) (k : Int32), (k = 0 ∨ k = 1) → ((m_po e0 e1 e2 e3 e4 e5 nS C f r σ k).1 = 0 ∨ (m_po e0 e1 e2 e3 e4 e5 nS C f r σ k).1 = 1) ∧ ((m_po e0 e1 e2 e3 e4 e5 nS C f r σ k).1 = 1 ↔ k = 1 ∧ ∀ y x, r ≤ y → y < r + f → x < C → m_tk (m_rv e0 e1 e2 e3 e4 e5 (nI y)) (nI x) ≤ 9) ∧ (∀ a b d, ¬ a = 39 → (m_po e0 e1 e2 e3 e4 e5 nS C f r σ k).2 a b d = σ a b d) ∧ (∀ q, q < 36 * nS + C * r → (m_po e0 e1 e2 e3 e4 e5 nS C f r σ k).2 39 0 q = σ 39 0 q) ∧ ∀ y x, r ≤ y → y < r + f → x < C → (m_po e0 e1 e2 e3 e4 e5 nS C f r σ k).2 39 0 (36 * nS + C * y + x) = m_tk (m_rv e0 e1 e2 e3 e4 e5 (nI y)) (nI x)
  | 0, r, σ, k, hk => ⟨hk, ⟨fun h => ⟨h, fun y x h1 h2 => by omega⟩, fun h => h.1⟩, fun _ _ _ _ => rfl, fun _ _ => rfl, fun y x h1 h2 => by omega⟩
  | f + 1, r, σ, k, hk => by
    rw [m_po]
    obtain ⟨p0, p1, p2, p3⟩ := m_pi_s (nS := nS) (C := C) (r := r) (v := m_rv e0 e1 e2 e3 e4 e5 (nI r)) C 0 σ k hk
    obtain ⟨i0, i1, i2, i3, i4⟩ := m_po_s (e0 := e0) (e1 := e1) (e2 := e2) (e3 := e3) (e4 := e4) (e5 := e5) (nS := nS) (C := C) f (r + 1) (m_pi nS C r (m_rv e0 e1 e2 e3 e4 e5 (nI r)) C 0 σ k).2 _ p0
    have hstep : C * (r + 1) = C * r + C := by rw [Nat.mul_add, Nat.mul_one]
    refine ⟨i0, ?_, fun a b d q => by rw [i2 a b d q, p2 a b d q], fun q hq => ?_, fun y x h1 h2 h3 => ?_⟩
    · rw [i1, p1]
      constructor
      · rintro ⟨⟨a1, a2⟩, a3⟩
        refine ⟨a1, fun y x h1 h2 h3 => ?_⟩
        by_cases e : y = r
        · rw [e]; exact a2 x (by omega) (by omega)
        · exact a3 y x (by omega) (by omega) h3
      · rintro ⟨a1, a2⟩
        exact ⟨⟨a1, fun x h1 h2 => a2 r x (Nat.le_refl _) (by omega) (by omega)⟩, fun y x h1 h2 h3 => a2 y x (by omega) (by omega) h3⟩
    · rw [i3 q (by omega), p3 q, if_neg (by omega)]
    · by_cases e : y = r
      · subst e
        rw [i3 _ (by omega), p3, if_pos (by omega), show 36 * nS + C * y + x - (36 * nS + C * y) = x by omega]
      · exact i4 y x (by omega) (by omega) h3
theorem m_rv_r {e0 e1 e2 e3 e4 e5 : Int32} {σ : x_St} {y : Nat} (hy : y < 6) : x_up (x_up (x_up (x_up (x_up (x_up σ 19 0 0 e0) 19 0 1 e1) 19 0 2 e2) 19 0 3 e3) 19 0 4 e4) 19 0 5 e5 19 0 y = m_rv e0 e1 e2 e3 e4 e5 (nI y) := by
  have : y = 0 ∨ y = 1 ∨ y = 2 ∨ y = 3 ∨ y = 4 ∨ y = 5 := by omega
  rcases this with rfl | rfl | rfl | rfl | rfl | rfl <;> simp [x_up, m_rv, nI] <;> rfl
theorem f_X5_k {σ : x_St} {i : Nat} {a b d : Int32} {k j q : Nat} (h : ¬ ((k = 5 ∨ (15 ≤ k ∧ k ≤ 17)) ∧ j = i)) : f_X5_init (x_zr σ 5 i) i a b d k j q = σ k j q := by
  rw [f_X5_init, x_up_n (by omega), x_up_n (by omega), x_up_n (by omega), x_up_n (by omega), x_up_n (by omega), x_up_n (by omega), x_zr, if_neg (by omega), x_zr, if_neg (by omega), x_up_n (by omega), x_zr, if_neg (by omega), x_zr, if_neg (by omega)]
theorem sp_shell {ad : Nat → Nat → Nat} {nS nB nC nO N : Nat} {σ : x_St} {a b d e0 e1 e2 e3 e4 e5 : Int32} {r : Int32} {ad' : Nat → Nat → Nat} {m' : Nat} {τ : x_St} (hh : Rl σ nS nB nC nO N) (hN : N < 2 ^ 30) (hq : q_X6_shell ad (x_n nS nB nC nO) σ a b d e0 e1 e2 e3 e4 e5 nS r (ad', m', τ)) : x_M7 σ τ ∧ ∀ (r' : Int32) (v : x_St), q_X7_shell τ a b d e0 e1 e2 e3 e4 e5 nS r' v → r = r' ∧ Rl v m' nB nC nO (N + 1) := by
  have hS : σ 7 0 1 = σ 6 0 1 := hh.K.S7.trans hh.K.S.symm
  obtain ⟨hag, hc1, hc2⟩ := hq
  dsimp only at hc1 hc2
  by_cases hP : nS < 30 ∧ (1 ≤ a ∧ a ≤ 6) ∧ (1 ≤ b ∧ b ≤ 6) ∧ 0 ≤ d ∧ d ≤ 9
  · have hc := hc1 hP
    obtain ⟨ea, ga⟩ := x_ixle (Int32.le_trans (by decide) hP.2.1.1) hP.2.1.2 (N := 6) rfl (by decide)
    obtain ⟨eb, gb⟩ := x_ixle (Int32.le_trans (by decide) hP.2.2.1.1) hP.2.2.1.2 (N := 6) rfl (by decide)
    obtain ⟨ed, gd⟩ := x_ixle hP.2.2.2.1 hP.2.2.2.2 (N := 9) rfl (by decide)
    have a1 : 1 ≤ x_c a := by have w := hP.2.1.1; rw [ea] at w; exact (nI_leI (a := 1) (by decide) (by omega)).mp w
    have b1 : 1 ≤ x_c b := by have w := hP.2.2.1.1; rw [eb] at w; exact (nI_leI (a := 1) (by decide) (by omega)).mp w
    -- the class's squares
    obtain ⟨p1, p2, p3⟩ := f_po_s (i := nS) gb (x_c a) 0 (f_X5_init (x_zr (x_up (x_up (x_up (x_up (x_up (x_up σ 19 0 0 e0) 19 0 1 e1) 19 0 2 e2) 19 0 3 e3) 19 0 4 e4) 19 0 5 e5) 5 nS) nS a b d)
    have k19 : ∀ y, y < 6 → f_X5_init (x_zr (x_up (x_up (x_up (x_up (x_up (x_up σ 19 0 0 e0) 19 0 1 e1) 19 0 2 e2) 19 0 3 e3) 19 0 4 e4) 19 0 5 e5) 5 nS) nS a b d 19 0 y = m_rv e0 e1 e2 e3 e4 e5 (nI y) := fun y hy => by rw [f_X5_k (by omega)]; exact m_rv_r hy
    have k15 : ∀ q, f_X5_init (x_zr (x_up (x_up (x_up (x_up (x_up (x_up σ 19 0 0 e0) 19 0 1 e1) 19 0 2 e2) 19 0 3 e3) 19 0 4 e4) 19 0 5 e5) 5 nS) nS a b d 15 nS q = 0 := fun q => by simp [f_X5_init, x_up, x_zr]
    have hsh : ∀ k j q, ¬ k = 19 → ¬ ((k = 5 ∨ (15 ≤ k ∧ k ≤ 17)) ∧ j = nS) → (f_sh σ a b d e0 e1 e2 e3 e4 e5 nS).2 k j q = σ k j q := fun k j q h19 h => by
      unfold f_sh
      by_cases h15 : k = 15
      · subst h15
        rw [p2 j q (by omega), f_X5_k (by omega), x_up_n (by omega), x_up_n (by omega), x_up_n (by omega), x_up_n (by omega), x_up_n (by omega), x_up_n (by omega)]
      · rw [f_po_k _ _ _ _ _ k j q h15, f_X5_k h, x_up_n (by omega), x_up_n (by omega), x_up_n (by omega), x_up_n (by omega), x_up_n (by omega), x_up_n (by omega)]
    have hs5 : ∀ q, (f_sh σ a b d e0 e1 e2 e3 e4 e5 nS).2 5 nS q = if q = 0 then a else if q = 1 then b else if q = 2 then d else if q = 9 then -1 else 0 := fun q => by
      unfold f_sh
      rw [f_po_k _ _ _ _ _ 5 nS q (by decide)]
      by_cases q0 : q = 0
      · subst q0; simp [f_X5_init, x_up, x_zr]
      · by_cases q1 : q = 1
        · subst q1; simp [f_X5_init, x_up, x_zr]
        · by_cases q2 : q = 2
          · subst q2; simp [f_X5_init, x_up, x_zr]
          · by_cases q9 : q = 9
            · subst q9; simp [f_X5_init, x_up, x_zr]
            · simp [f_X5_init, x_up, x_zr, q0, q1, q2, q9]
    have hσ7 : x_M7 σ τ := by
      by_cases hv : (f_sh σ a b d e0 e1 e2 e3 e4 e5 nS).1 = true
      · rw [if_pos hv] at hc
        obtain ⟨_, _, rfl⟩ := hc
        exact fun a' b' d' q => by rw [x_up_n (by omega)]; exact hsh a' b' d' (by omega) (by omega)
      · rw [if_neg hv] at hc
        obtain ⟨_, _, rfl⟩ := hc
        exact fun a' b' d' q => hsh a' b' d' (by omega) (by omega)
    refine ⟨hσ7, fun r' v hv => ?_⟩
    have hvv := hv.1 hP
    -- the reference's squares
    obtain ⟨m0, m1, m2, m3, m4⟩ := m_po_s (e0 := e0) (e1 := e1) (e2 := e2) (e3 := e3) (e4 := e4) (e5 := e5) (nS := nS) (C := x_c b) (x_c a) 0 (x_up τ 7 0 0 0) 1 (Or.inr rfl)
    have hiff : (f_sh σ a b d e0 e1 e2 e3 e4 e5 nS).1 = true ↔ (m_po e0 e1 e2 e3 e4 e5 nS (x_c b) (x_c a) 0 (x_up τ 7 0 0 0) 1).1 = 1 := by
      rw [m1]
      unfold f_sh
      rw [p1]
      constructor
      · intro w
        refine ⟨rfl, fun y x h1 h2 h3 => ?_⟩
        have := w y x h1 h2 h3
        rw [k19 y (by omega), tk_eq _ _ (by omega)] at this
        exact this
      · intro w y x h1 h2 h3
        rw [k19 y (by omega), tk_eq _ _ (by omega)]
        exact w.2 y x h1 h2 h3
    by_cases hval : (f_sh σ a b d e0 e1 e2 e3 e4 e5 nS).1 = true
    · rw [if_pos hval] at hc
      obtain ⟨rfl, rfl, rfl⟩ := hc
      have hm1 := hiff.mp hval
      rw [if_neg (by rw [hm1]; decide)] at hvv
      obtain ⟨rfl, rfl⟩ := hvv
      refine ⟨rfl, ?_⟩
      have hgrid := p3 hval
      have hvalid := p1.mp hval
      -- v by kinds
      have hvk : ∀ a' b' d', ¬ ((a' = 5 ∨ (15 ≤ a' ∧ a' ≤ 17)) ∧ b' = nS) → ¬ (a' = 19 ∨ a' = 39) → ¬ ((a' = 36 ∨ a' = 37 ∨ a' = 38) ∧ d' = nS) → ¬ (a' = 7 ∧ (d' = 0 ∨ d' = 1)) → ¬ (a' = 6 ∧ d' = 1) → m_sh (m_po e0 e1 e2 e3 e4 e5 nS (x_c b) (x_c a) 0 (x_up (x_up (f_sh σ a b d e0 e1 e2 e3 e4 e5 nS).2 6 0 1 (nI (nS + 1))) 7 0 0 0) 1).2 a b d nS a' b' d' = σ a' b' d' := fun a' b' d' q1 q2 q3 q4 q5 => by
        rw [m_sh, x_up_n (by omega), x_up_n (by omega), x_up_n (by omega), x_up_n (by omega), m2 a' b' d' (by omega), x_up_n (by omega), x_up_n (by omega)]
        exact hsh a' b' d' (by omega) q1
      have hv5 : ∀ q, m_sh (m_po e0 e1 e2 e3 e4 e5 nS (x_c b) (x_c a) 0 (x_up (x_up (f_sh σ a b d e0 e1 e2 e3 e4 e5 nS).2 6 0 1 (nI (nS + 1))) 7 0 0 0) 1).2 a b d nS 5 nS q = if q = 0 then a else if q = 1 then b else if q = 2 then d else if q = 9 then -1 else 0 := fun q => by
        rw [m_sh, x_up_n (by omega), x_up_n (by omega), x_up_n (by omega), x_up_n (by omega), m2 5 nS q (by omega), x_up_n (by omega), x_up_n (by omega)]
        exact hs5 q
      have hv15 : ∀ y x, x < 6 → m_sh (m_po e0 e1 e2 e3 e4 e5 nS (x_c b) (x_c a) 0 (x_up (x_up (f_sh σ a b d e0 e1 e2 e3 e4 e5 nS).2 6 0 1 (nI (nS + 1))) 7 0 0 0) 1).2 a b d nS 15 nS (6 * y + x) = if y < x_c a ∧ x < x_c b then m_tk (m_rv e0 e1 e2 e3 e4 e5 (nI y)) (nI x) else 0 := fun y x hx => by
        rw [m_sh, x_up_n (by omega), x_up_n (by omega), x_up_n (by omega), x_up_n (by omega), m2 15 nS _ (by omega), x_up_n (by omega), x_up_n (by omega)]
        have := hgrid y x hx
        unfold f_sh
        rw [this]
        by_cases q : y < x_c a ∧ x < x_c b
        · rw [if_pos (by omega), if_pos q, k19 y (by omega), tk_eq _ _ hx]
        · rw [if_neg (by omega), if_neg q, k15]
      have hv39 : ∀ y x, y < x_c a → x < x_c b → m_sh (m_po e0 e1 e2 e3 e4 e5 nS (x_c b) (x_c a) 0 (x_up (x_up (f_sh σ a b d e0 e1 e2 e3 e4 e5 nS).2 6 0 1 (nI (nS + 1))) 7 0 0 0) 1).2 a b d nS 39 0 (36 * nS + x_c b * y + x) = m_tk (m_rv e0 e1 e2 e3 e4 e5 (nI y)) (nI x) := fun y x hy hx => by
        rw [m_sh, x_up_n (by omega), x_up_n (by omega), x_up_n (by omega), x_up_n (by omega)]
        exact m4 y x (Nat.zero_le _) (by omega) hx
      have hv39o : ∀ q, q < 36 * nS → m_sh (m_po e0 e1 e2 e3 e4 e5 nS (x_c b) (x_c a) 0 (x_up (x_up (f_sh σ a b d e0 e1 e2 e3 e4 e5 nS).2 6 0 1 (nI (nS + 1))) 7 0 0 0) 1).2 a b d nS 39 0 q = σ 39 0 q := fun q hq => by
        rw [m_sh, x_up_n (by omega), x_up_n (by omega), x_up_n (by omega), x_up_n (by omega), m3 q (by omega), x_up_n (by omega), x_up_n (by omega)]
        exact hsh 39 0 q (by omega) (by omega)
      have hv36 : ∀ d' : Nat, m_sh (m_po e0 e1 e2 e3 e4 e5 nS (x_c b) (x_c a) 0 (x_up (x_up (f_sh σ a b d e0 e1 e2 e3 e4 e5 nS).2 6 0 1 (nI (nS + 1))) 7 0 0 0) 1).2 a b d nS 36 0 nS = a ∧ m_sh (m_po e0 e1 e2 e3 e4 e5 nS (x_c b) (x_c a) 0 (x_up (x_up (f_sh σ a b d e0 e1 e2 e3 e4 e5 nS).2 6 0 1 (nI (nS + 1))) 7 0 0 0) 1).2 a b d nS 37 0 nS = b ∧ m_sh (m_po e0 e1 e2 e3 e4 e5 nS (x_c b) (x_c a) 0 (x_up (x_up (f_sh σ a b d e0 e1 e2 e3 e4 e5 nS).2 6 0 1 (nI (nS + 1))) 7 0 0 0) 1).2 a b d nS 38 0 nS = d := fun _ => by simp [m_sh, x_up]
      have hv71 : m_sh (m_po e0 e1 e2 e3 e4 e5 nS (x_c b) (x_c a) 0 (x_up (x_up (f_sh σ a b d e0 e1 e2 e3 e4 e5 nS).2 6 0 1 (nI (nS + 1))) 7 0 0 0) 1).2 a b d nS 7 0 1 = nI (nS + 1) := by simp [m_sh, x_up]
      have hv61 : m_sh (m_po e0 e1 e2 e3 e4 e5 nS (x_c b) (x_c a) 0 (x_up (x_up (f_sh σ a b d e0 e1 e2 e3 e4 e5 nS).2 6 0 1 (nI (nS + 1))) 7 0 0 0) 1).2 a b d nS 6 0 1 = nI (nS + 1) := by
        rw [m_sh, x_up_n (by omega), x_up_n (by omega), x_up_n (by omega), x_up_n (by omega), m2 6 0 1 (by omega), x_up_n (by omega), x_up_s]
      generalize m_sh (m_po e0 e1 e2 e3 e4 e5 nS (x_c b) (x_c a) 0 (x_up (x_up (f_sh σ a b d e0 e1 e2 e3 e4 e5 nS).2 6 0 1 (nI (nS + 1))) 7 0 0 0) 1).2 a b d nS = v at hvk hv5 hv15 hv39 hv39o hv36 hv71 hv61 ⊢
      obtain ⟨v36, v37, v38⟩ := hv36 0
      have ek : ∀ a' b' d', a' = 0 ∨ a' = 1 ∨ a' = 2 ∨ a' = 3 ∨ a' = 4 ∨ a' = 10 ∨ a' = 11 ∨ a' = 18 ∨ (40 ≤ a' ∧ a' ≤ 67) → v a' b' d' = σ a' b' d' := fun a' b' d' q => hvk a' b' d' (by omega) (by omega) (by omega) (by omega) (by omega)
      have f5 : ∀ j q, j < nS → v 5 j q = σ 5 j q := fun j q hj => hvk 5 j q (by omega) (by omega) (by omega) (by omega) (by omega)
      refine ⟨⟨hv61, by omega, hv71, ?_, hh.K.B0, ?_, ?_, hh.K.C0, ?_, ?_, hh.K.O0, ?_, ?_⟩, ?_, hh.B.mv (fun a' b' d' q => ek a' b' d' (by omega)) (hvk 6 0 12 (by omega) (by omega) (by omega) (by omega) (by omega)), hh.M.mv (fun a' b' d' q => ek a' b' d' (by omega)), hh.C.mv (fun a' b' d' q => ek a' b' d' (by omega)), hh.O.mv (fun a' b' d' q => ek a' b' d' (by omega))⟩
      · rw [hvk 6 0 3 (by omega) (by omega) (by omega) (by omega) (by omega)]; exact hh.K.B
      · rw [hvk 7 0 2 (by omega) (by omega) (by omega) (by omega) (by omega)]; exact hh.K.B7
      · rw [hvk 6 0 6 (by omega) (by omega) (by omega) (by omega) (by omega)]; exact hh.K.C
      · rw [hvk 7 0 3 (by omega) (by omega) (by omega) (by omega) (by omega)]; exact hh.K.C7
      · rw [hvk 6 0 8 (by omega) (by omega) (by omega) (by omega) (by omega)]; exact hh.K.O
      · rw [hvk 7 0 4 (by omega) (by omega) (by omega) (by omega) (by omega)]; exact hh.K.O7
      · rw [hvk 7 0 5 (by omega) (by omega) (by omega) (by omega) (by omega), hvk 6 0 13 (by omega) (by omega) (by omega) (by omega) (by omega)]; exact hh.K.P
      · obtain ⟨ql, l1, l2, l3⟩ := hh.S.l
        refine ⟨?_, ?_, ?_, ?_, ?_, ?_, ?_, ?_, ?_, ?_, ?_, ⟨?_, ?_⟩, ?_, ?_⟩
        · intro i hi
          by_cases q : i = nS
          · subst q; rw [v36, hv5, if_pos rfl]
          · rw [hvk 36 0 i (by omega) (by omega) (by omega) (by omega) (by omega), f5 i 0 (by omega)]; exact hh.S.e0 i (by omega)
        · intro i hi
          by_cases q : i = nS
          · subst q; rw [v37, hv5, if_neg (by decide), if_pos rfl]
          · rw [hvk 37 0 i (by omega) (by omega) (by omega) (by omega) (by omega), f5 i 1 (by omega)]; exact hh.S.e1 i (by omega)
        · intro i hi
          by_cases q : i = nS
          · subst q; rw [v38, hv5, if_neg (by decide), if_neg (by decide), if_pos rfl]
          · rw [hvk 38 0 i (by omega) (by omega) (by omega) (by omega) (by omega), f5 i 2 (by omega)]; exact hh.S.e2 i (by omega)
        · intro i hi
          rw [ek 40 0 i (by omega)]
          by_cases q : i = nS
          · subst q; rw [hv5, if_neg (by decide), if_neg (by decide), if_neg (by decide), if_neg (by decide)]; exact hh.S.z4 i (Nat.le_refl _) (by omega)
          · rw [f5 i 4 (by omega)]; exact hh.S.e4 i (by omega)
        · intro i hi h2; rw [ek 40 0 i (by omega)]; exact hh.S.z4 i (by omega) h2
        · intro i hi
          by_cases q : i = nS
          · subst q; exact ⟨x_c d, gd, by rw [hv5, if_neg (by decide), if_neg (by decide), if_pos rfl]; exact ed⟩
          · rw [f5 i 2 (by omega)]; exact hh.S.i2 i (by omega)
        · intro i hi
          by_cases q : i = nS
          · subst q; exact ⟨x_c a, a1, ga, by rw [hv5, if_pos rfl]; exact ea⟩
          · rw [f5 i 0 (by omega)]; exact hh.S.r i (by omega)
        · intro i hi
          by_cases q : i = nS
          · subst q; exact ⟨x_c b, b1, gb, by rw [hv5, if_neg (by decide), if_pos rfl]; exact eb⟩
          · rw [f5 i 1 (by omega)]; exact hh.S.c i (by omega)
        · intro i y x hi
          by_cases q : i = nS
          · subst q
            rw [hv5, hv5, if_pos rfl, if_neg (by decide), if_pos rfl]
            intro hy hx
            rw [hv15 y x (by omega), if_pos ⟨hy, hx⟩, hv39 y x hy hx]
            refine ⟨?_, rfl⟩
            rw [← tk_eq _ _ (by omega)]
            obtain ⟨t, t16, et⟩ := tk_nI (m_rv e0 e1 e2 e3 e4 e5 (nI y)) x
            have hle := hvalid y x (Nat.zero_le _) (by omega) hx
            rw [k19 y (by omega), et] at hle
            exact ⟨t, (nI_leI (b := 9) (by omega) (by decide)).mp hle, et⟩
          · rw [f5 i 0 (by omega), f5 i 1 (by omega), hvk 15 i _ (by omega) (by omega) (by omega) (by omega) (by omega)]
            intro hy hx
            obtain ⟨R, _, R6, eR⟩ := hh.S.r i (by omega)
            obtain ⟨C, _, C6, eC⟩ := hh.S.c i (by omega)
            have eR2 : x_c (σ 5 i 0) = R := by rw [eR, x_cn (by omega)]
            have eC2 : x_c (σ 5 i 1) = C := by rw [eC, x_cn (by omega)]
            have hlt : x_c (σ 5 i 1) * y + x < 36 := by
              have := Nat.mul_le_mul (show x_c (σ 5 i 1) ≤ 6 by omega) (show y + 1 ≤ 6 by omega)
              rw [Nat.mul_add, Nat.mul_one] at this
              omega
            rw [hv39o _ (by omega)]
            exact hh.S.g i y x (by omega) hy hx
        · intro i y x hi
          by_cases q : i = nS
          · subst q
            rw [hv5, hv5, if_pos rfl, if_neg (by decide), if_pos rfl]
            intro _ hx hn
            rw [hv15 y x hx, if_neg hn]
          · rw [f5 i 0 (by omega), f5 i 1 (by omega), hvk 15 i _ (by omega) (by omega) (by omega) (by omega) (by omega)]
            exact hh.S.g0 i y x (by omega)
        · intro d' hd'; rw [ek 41 0 d' (by omega), ek 11 0 d' (by omega)]; exact hh.S.w d' hd'
        · intro d' hd'; rw [ek 11 0 d' (by omega)]; exact hh.S.wk.1 d' hd'
        · intro z z1 z3; rw [ek 11 0 _ (by omega)]; exact hh.S.wk.2 z z1 z3
        · rw [ek 2 0 1 (by omega)]
          refine ⟨ql, by omega, l2, fun i hi => ?_⟩
          by_cases q : i = nS
          · subst q; left; rw [hv5, if_neg (by decide), if_neg (by decide), if_neg (by decide), if_pos rfl]
          · rw [f5 i 9 (by omega)]; exact l3 i (by omega)
        · intro i hi
          rw [ek 2 0 1 (by omega)]
          by_cases q : i = nS
          · subst q
            rw [hv5 9, if_neg (by decide), if_neg (by decide), if_neg (by decide), if_pos rfl, l2]
            intro w
            exfalso
            have := congrArg Int32.toInt w
            rw [nI_toInt (by omega)] at this
            have h1 : (-1 : Int32).toInt = -1 := rfl
            rw [h1] at this
            omega
          · rw [f5 i 9 (by omega), f5 i 0 (by omega), f5 i 1 (by omega)]
            intro w
            have hcu := hh.S.p i (by omega) w
            obtain ⟨R, _, R6, eR⟩ := hh.S.r i (by omega)
            obtain ⟨C, C1, C6, eC⟩ := hh.S.c i (by omega)
            have eR2 : x_c (σ 5 i 0) = R := by rw [eR, x_cn (by omega)]
            have eC2 : x_c (σ 5 i 1) = C := by rw [eC, x_cn (by omega)]
            exact f_cu_cg (by omega) (by omega) (by omega) (fun q hq => hv39o _ (by omega)) (fun b' d' => ek 41 b' d' (by omega)) (fun d' => hvk 16 i d' (by omega) (by omega) (by omega) (by omega) (by omega)) (fun d' => hvk 17 i d' (by omega) (by omega) (by omega) (by omega) (by omega)) (f5 i 7 (by omega)) (f5 i 8 (by omega)) hcu
    · rw [if_neg hval] at hc
      obtain ⟨rfl, rfl, rfl⟩ := hc
      have hm0 : (m_po e0 e1 e2 e3 e4 e5 m' (x_c b) (x_c a) 0 (x_up (f_sh σ a b d e0 e1 e2 e3 e4 e5 m').2 7 0 0 0) 1).1 = 0 := m0.resolve_right (fun w => hval (hiff.mpr w))
      rw [if_pos hm0] at hvv
      obtain ⟨rfl, rfl⟩ := hvv
      refine ⟨rfl, ?_⟩
      have hvk : ∀ a' b' d', ¬ ((a' = 5 ∨ (15 ≤ a' ∧ a' ≤ 17)) ∧ b' = m') → ¬ (a' = 19 ∨ a' = 39) → ¬ (a' = 7 ∧ d' = 0) → (m_po e0 e1 e2 e3 e4 e5 m' (x_c b) (x_c a) 0 (x_up (f_sh σ a b d e0 e1 e2 e3 e4 e5 m').2 7 0 0 0) 1).2 a' b' d' = σ a' b' d' := fun a' b' d' q1 q2 q3 => by
        rw [m2 a' b' d' (by omega), x_up_n (by omega)]; exact hsh a' b' d' (by omega) q1
      have hv39o : ∀ q, q < 36 * m' → (m_po e0 e1 e2 e3 e4 e5 m' (x_c b) (x_c a) 0 (x_up (f_sh σ a b d e0 e1 e2 e3 e4 e5 m').2 7 0 0 0) 1).2 39 0 q = σ 39 0 q := fun q hq => by
        rw [m3 q (by omega), x_up_n (by omega)]; exact hsh 39 0 q (by omega) (by omega)
      generalize (m_po e0 e1 e2 e3 e4 e5 m' (x_c b) (x_c a) 0 (x_up (f_sh σ a b d e0 e1 e2 e3 e4 e5 m').2 7 0 0 0) 1).2 = v at hvk hv39o ⊢
      exact hh.nosh (fun a' b' d' q1 q2 q3 => hvk a' b' d' q1 q2 q3) hv39o
  · obtain ⟨rfl, rfl, hσ⟩ := hc2 hP
    replace hσ := hσ.symm; subst hσ
    refine ⟨x_M7.rf σ, fun r' v hv => ?_⟩
    obtain ⟨rfl, rfl⟩ := hv.2 hP
    exact ⟨rfl, hh.rd0 _⟩
