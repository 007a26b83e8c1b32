/-! the reference's table is the best cut at 100 -/
def ca_G (σ : x_St) (sh R C p n : Nat) : Int := if 1 ≤ n ∧ n ≤ 3 then (σ 41 0 (10 * n + x_c (m_th (m_G σ sh C) R C p n))).toInt else 0
/-- what is asked of a shell and the list, on the reference's side -/
def ca_H (σ : x_St) (sh R C : Nat) : Prop := 1 ≤ C ∧ C ≤ 6 ∧ R ≤ 6 ∧ (∀ y x, y < R → x < C → ∃ t, t ≤ 9 ∧ m_G σ sh C y x = nI t) ∧ (∀ d, d < 40 → ∃ t, t ≤ 999 ∧ σ 41 0 d = nI t) ∧ ∀ z, 1 ≤ z → z ≤ 3 → σ 41 0 (10 * z) = 0
section CM
variable {σ : x_St} {sh R C : Nat}
theorem ca_Gv (hH : ca_H σ sh R C) {p n : Nat} (h1 : 1 ≤ n) (h3 : n ≤ 3) : ∃ t, t ≤ 9 ∧ m_th (m_G σ sh C) R C p n = nI t ∧ σ 41 0 (10 * n + t) = oI (ca_G σ sh R C p n) ∧ 0 ≤ ca_G σ sh R C p n ∧ ca_G σ sh R C p n ≤ 999 ∧ (t = 0 → ca_G σ sh R C p n = 0) := by
  obtain ⟨_, _, _, hg, hw, hw0⟩ := hH
  obtain ⟨t, ht, et⟩ := m_th_ok (pl := p) (z := n) hg
  obtain ⟨u, hu, eu⟩ := hw (10 * n + t) (by omega)
  have e : ca_G σ sh R C p n = u := by
    rw [ca_G, if_pos ⟨h1, h3⟩, et, x_cn (by omega), eu, nI_toInt (by omega)]
  refine ⟨t, ht, et, by rw [e, eu, oI_nI], by omega, by omega, fun h0 => ?_⟩
  subst h0
  have h2 := hw0 n h1 h3
  rw [Nat.add_zero] at eu
  rw [e]
  have := (nI_eq (a := u) (b := 0) (by omega) (by decide)).mp (eu.symm.trans h2)
  omega
theorem ca_G_top (hH : ca_H σ sh R C) (p n : Nat) : ca_G σ sh R C p n ≤ 999 := by
  by_cases h : 1 ≤ n ∧ n ≤ 3
  · obtain ⟨_, _, _, _, _, h5, _⟩ := ca_Gv hH (p := p) h.1 h.2; exact h5
  · rw [ca_G, if_neg h]; decide
theorem ca_fit (hH : ca_H σ sh R C) {p n : Nat} (h1 : 1 ≤ n) (h3 : n ≤ 3) (h : 0 < ca_G σ sh R C p n) : p / C + n ≤ R ∧ p % C + n ≤ C := by
  obtain ⟨t, ht, et, _, _, _, h0⟩ := ca_Gv hH (p := p) h1 h3
  have : ¬ (R < p / C + n ∨ C < p % C + n) := fun q => by
    rw [m_th, if_pos q] at et
    have := (nI_eq (a := 0) (b := t) (by decide) (by omega)).mp et
    have := h0 this.symm
    omega
  omega
theorem ca_At (hH : ca_H σ sh R C) {f : Nat} (hf : f ≤ 36) (d : Nat → Nat) : 0 ≤ ca_A 100 (ca_G σ sh R C) C (R * C) f d ∧ ca_A 100 (ca_G σ sh R C) C (R * C) f d ≤ 3596400 := by
  refine ⟨ca_A_pos (by decide) f d, ?_⟩
  have := ca_A_top (lam := 100) (G := ca_G σ sh R C) (C := C) (N := R * C) (ca_G_top hH) (by decide) f d
  omega
theorem ca_N36 (hH : ca_H σ sh R C) : R * C ≤ 36 := Nat.mul_le_mul hH.2.2.1 hH.2.1
/-- what the sizes come to at a place -/
theorem ca_g0 {F : Nat → Int32} {f k p : Nat} (hF : ∀ k, k < 4 ^ C → F k = oI (ca_A 100 (ca_G σ sh R C) C (R * C) f (m_dg k))) (hH : ca_H σ sh R C) (hk : k < 4 ^ C) : m_cF σ sh R C p k 0 F = oI (ca_A 100 (ca_G σ sh R C) C (R * C) f (ca_nx (m_dg k) (p % C) 0)) := by
  obtain ⟨v, e, hv⟩ := ca_tn0 (C := C) (p := p) (k := k)
  rw [m_cF, m_t, if_pos rfl, if_neg (by decide), e]
  show F v + (if (0 : Nat) = 0 then 0 else _) = _
  rw [if_pos rfl, Int32.add_zero, hF v (m_tn_lt e hk hH.1 (by decide) (Or.inl rfl)), show m_dg v = ca_nx (m_dg k) (p % C) 0 from funext hv]
theorem ca_gp {F : Nat → Int32} {k p n : Nat} (h1 : 1 ≤ n) (h3 : n ≤ 3) (h : 0 < m_dg k (p % C)) : m_cF σ sh R C p k n F = oI (-1000000) := by
  rw [m_cF]
  split
  · rfl
  · rcases ca_tnz (C := C) (p := p) (k := k) h1 h3 with ⟨_, e⟩ | ⟨h0, _⟩
    · rw [e]; rfl
    · have := h0 0 (by omega)
      rw [Nat.add_zero] at this
      omega
theorem ca_gn {F : Nat → Int32} {f k p n : Nat} (hF : ∀ k, k < 4 ^ C → F k = oI (ca_A 100 (ca_G σ sh R C) C (R * C) f (m_dg k))) (hH : ca_H σ sh R C) (hf : f ≤ 36) (hk : k < 4 ^ C) (h1 : 1 ≤ n) (h3 : n ≤ 3) :
    ∃ v : Int, m_cF σ sh R C p k n F = oI v ∧ -1000000 ≤ v ∧ v ≤ 3796400 ∧ ((ca_ok (ca_G σ sh R C) C p (m_dg k) n ∧ v = ca_c 100 (ca_G σ sh R C) C p (ca_A 100 (ca_G σ sh R C) C (R * C) f) (m_dg k) n) ∨ (¬ ca_ok (ca_G σ sh R C) C p (m_dg k) n ∧ v < ca_A 100 (ca_G σ sh R C) C (R * C) f (m_dg k) ∧ ca_c 100 (ca_G σ sh R C) C p (ca_A 100 (ca_G σ sh R C) C (R * C) f) (m_dg k) n = ca_A 100 (ca_G σ sh R C) C (R * C) f (m_dg k))) := by
  obtain ⟨t, ht, et, ev, hp, htop, h0⟩ := ca_Gv hH (p := p) h1 h3
  have hA := ca_At hH hf (m_dg k)
  have hbad : ¬ ca_ok (ca_G σ sh R C) C p (m_dg k) n → m_cF σ sh R C p k n F = oI (-1000000) → ∃ v : Int, m_cF σ sh R C p k n F = oI v ∧ -1000000 ≤ v ∧ v ≤ 3796400 ∧ ((ca_ok (ca_G σ sh R C) C p (m_dg k) n ∧ v = ca_c 100 (ca_G σ sh R C) C p (ca_A 100 (ca_G σ sh R C) C (R * C) f) (m_dg k) n) ∨ (¬ ca_ok (ca_G σ sh R C) C p (m_dg k) n ∧ v < ca_A 100 (ca_G σ sh R C) C (R * C) f (m_dg k) ∧ ca_c 100 (ca_G σ sh R C) C p (ca_A 100 (ca_G σ sh R C) C (R * C) f) (m_dg k) n = ca_A 100 (ca_G σ sh R C) C (R * C) f (m_dg k))) :=
    fun q e => ⟨-1000000, e, by decide, by decide, Or.inr ⟨q, by omega, by rw [ca_c, if_neg q]⟩⟩
  have emt : m_t σ sh R C p n = nI t := by rw [m_t, if_neg (by omega), et]
  by_cases ht0 : t = 0
  · refine hbad (fun q => by have := q.1; rw [h0 ht0] at this; exact absurd this (by decide)) ?_
    rw [m_cF, emt, ht0, if_pos (show nI 0 = 0 from rfl)]; rfl
  · have htn : ¬ nI t = 0 := nI_ne0 (by omega) (by omega)
    rcases ca_tnz (C := C) (p := p) (k := k) h1 h3 with ⟨hd, e⟩ | ⟨hd, v, e, hv⟩
    · refine hbad (fun q => ?_) ?_
      · rcases hd with hd | ⟨x, hx, hd⟩
        · have := q.2 0 (by omega); rw [Nat.add_zero] at this; omega
        · exact hd (q.2 x hx)
      · rw [m_cF, emt, if_neg htn, e]; rfl
    · have hfit := m_t_fit (σ := σ) (sh := sh) (R := R) (C := C) (pl := p) (z := n) (by rw [emt]; exact htn)
      have hvl := m_tn_lt e hk hH.1 h3 hfit
      have hA2 := ca_At hH hf (ca_put (m_dg k) (p % C) n)
      have eF : m_cF σ sh R C p k n F = oI (ca_A 100 (ca_G σ sh R C) C (R * C) f (ca_put (m_dg k) (p % C) n) + (100 * ca_G σ sh R C p n - 1)) := by
        rw [m_cF, emt, if_neg htn, e]
        show F v + (if n = 0 then 0 else _) = _
        rw [if_neg (by omega), hF v hvl, x_cn (by omega), ev, oI_lit100, oI_mul, oI_lit1, oI_sub, oI_add, show m_dg v = ca_put (m_dg k) (p % C) n from funext hv]
      refine ⟨_, eF, by omega, by omega, ?_⟩
      by_cases hg : 0 < ca_G σ sh R C p n
      · have hok : ca_ok (ca_G σ sh R C) C p (m_dg k) n := ⟨hg, hd⟩
        exact Or.inl ⟨hok, by rw [ca_c, if_pos hok]; omega⟩
      · have hok : ¬ ca_ok (ca_G σ sh R C) C p (m_dg k) n := fun q => hg q.1
        refine Or.inr ⟨hok, ?_, by rw [ca_c, if_neg hok]⟩
        have := ca_mono (lam := 100) (G := ca_G σ sh R C) (C := C) (N := R * C) (by decide) f (m_dg k) (ca_put (m_dg k) (p % C) n) (ca_put_ge h1 hd)
        omega
theorem ca_st {x w : Int32} {a b v c : Int} (hx : x = oI a) (hb : b ≤ a) (ha : a ≤ 3796400) (hb0 : 0 ≤ b) (hw : w = oI v) (hv : -1000000 ≤ v) (hv2 : v ≤ 3796400) (h : v = c ∨ (v < b ∧ c = b)) : (if x < w then w else x) = oI (ca_m a c) ∧ b ≤ ca_m a c ∧ ca_m a c ≤ 3796400 := by
  subst hx hw
  have hlt := oI_lt (a := a) (b := v) (by omega) (by omega) (by omega) (by omega)
  unfold ca_m
  rcases h with rfl | ⟨h1, rfl⟩
  · by_cases q : a < v
    · rw [if_pos (hlt.mpr q), if_pos q]; exact ⟨rfl, by omega, by omega⟩
    · rw [if_neg (fun z => q (hlt.mp z)), if_neg q]; exact ⟨rfl, by omega, by omega⟩
  · rw [if_neg (fun z => absurd (hlt.mp z) (by omega)), if_neg (by omega)]; exact ⟨rfl, by omega, by omega⟩
theorem ca_mx4 {g : Nat → Int32} {b b0 b1 b2 b3 : Int32} (h0 : (if b < g 0 then g 0 else b) = b0) (h1 : (if b0 < g 1 then g 1 else b0) = b1) (h2 : (if b1 < g 2 then g 2 else b1) = b2) (h3 : (if b2 < g 3 then g 3 else b2) = b3) : m_mxf g 4 0 b = b3 := by
  subst h0 h1 h2 h3
  rfl
theorem ca_M (hH : ca_H σ sh R C) : ∀ (f : Nat), f ≤ R * C → ∀ k, k < 4 ^ C → m_F σ sh R C f k = oI (ca_A 100 (ca_G σ sh R C) C (R * C) f (m_dg k))
  | 0, _, _, _ => rfl
  | f + 1, hf, k, hk => by
    have hN := ca_N36 hH
    have hF := ca_M hH f (by omega)
    have hf36 : f ≤ 36 := by omega
    have e0 := ca_g0 (p := R * C - (f + 1)) hF hH hk
    have hA0 := ca_At hH hf36 (ca_nx (m_dg k) ((R * C - (f + 1)) % C) 0)
    show m_mxf (fun z => m_cF σ sh R C (R * C - (f + 1)) k z (m_F σ sh R C f)) 4 0 (-1000000) = _
    have s0 : (if (-1000000 : Int32) < m_cF σ sh R C (R * C - (f + 1)) k 0 (m_F σ sh R C f) then m_cF σ sh R C (R * C - (f + 1)) k 0 (m_F σ sh R C f) else -1000000) = oI (ca_A 100 (ca_G σ sh R C) C (R * C) f (ca_nx (m_dg k) ((R * C - (f + 1)) % C) 0)) := by
      rw [e0, oI_nev]
      exact if_pos ((oI_lt (a := -1000000) (by decide) (by decide) (by omega) (by omega)).mpr (by omega))
    by_cases h : 0 < m_dg k ((R * C - (f + 1)) % C)
    · rw [ca_A, if_pos h]
      rw [ca_nx, if_pos rfl, if_pos h] at s0 hA0
      have hs : ∀ n, 1 ≤ n → n ≤ 3 → (if oI (ca_A 100 (ca_G σ sh R C) C (R * C) f (ca_dec (m_dg k) ((R * C - (f + 1)) % C))) < m_cF σ sh R C (R * C - (f + 1)) k n (m_F σ sh R C f) then m_cF σ sh R C (R * C - (f + 1)) k n (m_F σ sh R C f) else oI (ca_A 100 (ca_G σ sh R C) C (R * C) f (ca_dec (m_dg k) ((R * C - (f + 1)) % C)))) = oI (ca_A 100 (ca_G σ sh R C) C (R * C) f (ca_dec (m_dg k) ((R * C - (f + 1)) % C))) := by
        intro n h1 h3
        rw [ca_gp h1 h3 h]
        exact if_neg (fun q => absurd ((oI_lt (by omega) (by omega) (by decide) (by decide)).mp q) (by omega))
      exact ca_mx4 s0 (hs 1 (by decide) (by decide)) (hs 2 (by decide) (by decide)) (hs 3 (by decide) (by decide))
    · rw [ca_A, if_neg h]
      rw [ca_nx, if_pos rfl, if_neg h] at s0 hA0
      obtain ⟨v1, ev1, l1, u1, c1⟩ := ca_gn (p := R * C - (f + 1)) (n := 1) hF hH hf36 hk (by decide) (by decide)
      obtain ⟨v2, ev2, l2, u2, c2⟩ := ca_gn (p := R * C - (f + 1)) (n := 2) hF hH hf36 hk (by decide) (by decide)
      obtain ⟨v3, ev3, l3, u3, c3⟩ := ca_gn (p := R * C - (f + 1)) (n := 3) hF hH hf36 hk (by decide) (by decide)
      obtain ⟨s1, q1, w1⟩ := ca_st rfl (Int.le_refl _) (by omega) hA0.1 ev1 l1 u1 (c1.imp (fun z => z.2) (fun z => z.2))
      obtain ⟨s2, q2, w2⟩ := ca_st rfl q1 w1 hA0.1 ev2 l2 u2 (c2.imp (fun z => z.2) (fun z => z.2))
      obtain ⟨s3, q3, w3⟩ := ca_st rfl q2 w2 hA0.1 ev3 l3 u3 (c3.imp (fun z => z.2) (fun z => z.2))
      exact ca_mx4 s0 s1 s2 s3
/-- the reference's choice -/
theorem ca_eqn (hH : ca_H σ sh R C) {f k n : Nat} (hf : f + 1 ≤ R * C) (hk : k < 4 ^ C) (h1 : 1 ≤ n) (h3 : n ≤ 3) (h : m_dg k ((R * C - (f + 1)) % C) = 0) : (m_cF σ sh R C (R * C - (f + 1)) k n (m_F σ sh R C f) = m_F σ sh R C (f + 1) k ↔ (ca_ok (ca_G σ sh R C) C (R * C - (f + 1)) (m_dg k) n ∧ ca_c 100 (ca_G σ sh R C) C (R * C - (f + 1)) (ca_A 100 (ca_G σ sh R C) C (R * C) f) (m_dg k) n = ca_A 100 (ca_G σ sh R C) C (R * C) (f + 1) (m_dg k))) := by
  have hN := ca_N36 hH
  obtain ⟨v, ev, l, u, hc⟩ := ca_gn (p := R * C - (f + 1)) (n := n) (ca_M hH f (by omega)) hH (by omega) hk h1 h3
  have hA := ca_At hH (show f + 1 ≤ 36 by omega) (m_dg k)
  have hb := ca_A_base (lam := 100) (G := ca_G σ sh R C) h
  rw [ev, ca_M hH (f + 1) hf k hk, oI_eq (by omega) (by omega) (by omega) (by omega)]
  rcases hc with ⟨q1, q2⟩ | ⟨q1, q2, q3⟩
  · rw [q2]
    exact ⟨fun z => ⟨q1, z⟩, fun z => z.2⟩
  · exact ⟨fun z => absurd z (by omega), fun z => absurd z.1 q1⟩
theorem ca_chz (hH : ca_H σ sh R C) {f k : Nat} (hf : f + 1 ≤ R * C) (hk : k < 4 ^ C) : m_chz σ sh R C f k = ca_z 100 (ca_G σ sh R C) C (R * C) f (m_dg k) := by
  have hN := ca_N36 hH
  rw [m_chz, m_ch, ca_z]
  by_cases h : 0 < m_dg k ((R * C - (f + 1)) % C)
  · rw [if_pos h]
    have hA := ca_At hH (show f + 1 ≤ 36 by omega) (m_dg k)
    have hn : ∀ n, 1 ≤ n → n ≤ 3 → ¬ m_cF σ sh R C (R * C - (f + 1)) k n (m_F σ sh R C f) = m_F σ sh R C (f + 1) k := by
      intro n h1 h3 q
      rw [ca_gp h1 h3 h, ca_M hH (f + 1) hf k hk, oI_eq (by decide) (by decide) (by omega) (by omega)] at q
      omega
    rw [if_neg (hn 3 (by decide) (by decide)), if_neg (hn 2 (by decide) (by decide)), if_neg (hn 1 (by decide) (by decide))]
  · have h0 : m_dg k ((R * C - (f + 1)) % C) = 0 := by omega
    rw [if_neg h]
    simp only [ca_eqn hH hf hk (n := 3) (by decide) (by decide) h0, ca_eqn hH hf hk (n := 2) (by decide) (by decide) h0, ca_eqn hH hf hk (n := 1) (by decide) (by decide) h0]
theorem ca_z_ok {lam : Int} {G : Nat → Nat → Int} {N f : Nat} {d : Nat → Nat} (h : 0 < ca_z lam G C N f d) : d ((N - (f + 1)) % C) = 0 ∧ ca_ok G C (N - (f + 1)) d (ca_z lam G C N f d) ∧ ca_z lam G C N f d ≤ 3 := by
  rw [ca_z] at h ⊢
  by_cases h0 : 0 < d ((N - (f + 1)) % C)
  · rw [if_pos h0] at h; exact absurd h (Nat.lt_irrefl _)
  · rw [if_neg h0] at h ⊢
    refine ⟨by omega, ?_⟩
    split
    · rename_i q; exact ⟨q.1, by decide⟩
    · split
      · rename_i q; exact ⟨q.1, by decide⟩
      · split
        · rename_i q; exact ⟨q.1, by decide⟩
        · rename_i q1 q2 q3
          rw [if_neg q1, if_neg q2, if_neg q3] at h
          exact absurd h (Nat.lt_irrefl _)
/-- the reference's next state after its choice -/
theorem ca_nxt (hH : ca_H σ sh R C) {f k : Nat} (hf : f + 1 ≤ R * C) (hk : k < 4 ^ C) : m_dg ((m_tn C (R * C - (f + 1)) k (m_chz σ sh R C f k)).getD 0) = ca_nx (m_dg k) ((R * C - (f + 1)) % C) (ca_z 100 (ca_G σ sh R C) C (R * C) f (m_dg k)) ∧ (m_tn C (R * C - (f + 1)) k (m_chz σ sh R C f k)).getD 0 < 4 ^ C := by
  rw [ca_chz hH hf hk]
  rcases Nat.eq_zero_or_pos (ca_z 100 (ca_G σ sh R C) C (R * C) f (m_dg k)) with h | h
  · rw [h]
    obtain ⟨v, e, hv⟩ := ca_tn0 (C := C) (p := R * C - (f + 1)) (k := k)
    rw [e]
    exact ⟨funext hv, m_tn_lt e hk hH.1 (by decide) (Or.inl rfl)⟩
  · obtain ⟨h0, hok, h3⟩ := ca_z_ok h
    have hfit := ca_fit hH h h3 hok.1
    rcases ca_tnz (C := C) (p := R * C - (f + 1)) (k := k) h h3 with ⟨hd, e⟩ | ⟨hd, v, e, hv⟩
    · exfalso
      rcases hd with hd | ⟨x, hx, hd⟩
      · omega
      · exact hd (hok.2 x hx)
    · rw [e]
      refine ⟨?_, m_tn_lt e hk hH.1 h3 (Or.inr hfit.2)⟩
      rw [ca_nx, if_neg (by omega)]
      exact funext hv
theorem ca_told (hH : ca_H σ sh R C) : ∀ (f k : Nat) (τ : x_St), f ≤ R * C → k < 4 ^ C → ∀ q, R * C - f ≤ q → q < R * C → m_fw σ sh R C f k τ 69 0 q = nI (ca_T 100 (ca_G σ sh R C) C (R * C) f (m_dg k) q)
  | 0, _, _, _, _, q, h1, h2 => by omega
  | f + 1, k, τ, hf, hk, q, h1, h2 => by
    obtain ⟨e1, e2⟩ := ca_nxt hH hf hk
    rw [m_fw, ca_T]
    by_cases hq : q = R * C - (f + 1)
    · rw [if_pos hq, m_fw_t _ _ _ _ (by omega) (by omega), m_wr_t, if_pos hq, ca_chz hH hf hk]
    · rw [if_neg hq, ca_told hH f _ _ (by omega) e2 q (by omega) h2, e1]
def ca_s (w : Nat → Int32) (T : Nat → Nat) : Nat → Nat → Int32 → Int32
  | 0, _, a => a
  | f + 1, p, a => ca_s w T f (p + 1) (if T p = 0 then a else a + w p)
theorem ca_s_cong {w w' : Nat → Int32} {T T' : Nat → Nat} : ∀ (f p : Nat) (a : Int32), (∀ q, p ≤ q → q < p + f → T q = T' q ∧ (¬ T q = 0 → w q = w' q)) → ca_s w T f p a = ca_s w' T' f p a
  | 0, _, _, _ => rfl
  | f + 1, p, a, h => by
    obtain ⟨h1, h2⟩ := h p (Nat.le_refl _) (by omega)
    rw [ca_s, ca_s, ca_s_cong f (p + 1) _ (fun q q1 q2 => h q (by omega) (by omega)), ← h1]
    by_cases h0 : T p = 0
    · rw [if_pos h0, if_pos h0]
    · rw [if_neg h0, if_neg h0, h2 h0]
/-- the worth of what is told at a place -/
def ca_w (σ : x_St) (sh R C : Nat) (T : Nat → Nat) (p : Nat) : Int32 := σ 41 0 (10 * T p + x_c (m_th (m_G σ sh C) R C p (T p)))
theorem ca_sums (hH : ca_H σ sh R C) : ∀ (f k : Nat) (τ : x_St), f ≤ R * C → k < 4 ^ C →
    m_fw σ sh R C f k τ 7 0 41 = ca_s (ca_w σ sh R C (ca_T 100 (ca_G σ sh R C) C (R * C) f (m_dg k))) (ca_T 100 (ca_G σ sh R C) C (R * C) f (m_dg k)) f (R * C - f) (τ 7 0 41) ∧
    m_fw σ sh R C f k τ 7 0 40 = ca_s (fun _ => 1) (ca_T 100 (ca_G σ sh R C) C (R * C) f (m_dg k)) f (R * C - f) (τ 7 0 40)
  | 0, _, _, _, _ => ⟨rfl, rfl⟩
  | f + 1, k, τ, hf, hk => by
    obtain ⟨e1, e2⟩ := ca_nxt hH hf hk
    have hz := ca_chz hH hf hk
    obtain ⟨i1, i2⟩ := ca_sums hH f _ (m_wr σ sh R C (R * C - (f + 1)) (m_chz σ sh R C f k) τ) (by omega) e2
    rw [m_fw, i1, i2, e1, hz, ca_s, ca_s, show R * C - (f + 1) + 1 = R * C - f by omega]
    have hT0 : ca_T 100 (ca_G σ sh R C) C (R * C) (f + 1) (m_dg k) (R * C - (f + 1)) = ca_z 100 (ca_G σ sh R C) C (R * C) f (m_dg k) := by rw [ca_T, if_pos rfl]
    have hT1 : ∀ q, R * C - f ≤ q → ca_T 100 (ca_G σ sh R C) C (R * C) (f + 1) (m_dg k) q = ca_T 100 (ca_G σ sh R C) C (R * C) f (ca_nx (m_dg k) ((R * C - (f + 1)) % C) (ca_z 100 (ca_G σ sh R C) C (R * C) f (m_dg k))) q := fun q hq => by rw [ca_T, if_neg (by omega)]
    constructor
    · refine Eq.trans (ca_s_cong (w' := ca_w σ sh R C (ca_T 100 (ca_G σ sh R C) C (R * C) (f + 1) (m_dg k))) (T' := (ca_T 100 (ca_G σ sh R C) C (R * C) (f + 1) (m_dg k))) f _ _ (fun q q1 q2 => ⟨(hT1 q q1).symm, fun _ => by unfold ca_w; rw [hT1 q q1]⟩)) ?_
      congr 1
      rw [m_wr, hT0]
      by_cases h0 : ca_z 100 (ca_G σ sh R C) C (R * C) f (m_dg k) = 0
      · rw [if_pos h0, if_pos h0, x_up_n (by simp)]
      · rw [if_neg h0, if_neg h0, x_up_s, ca_w, hT0]
    · refine Eq.trans (ca_s_cong (w' := fun _ => 1) (T' := (ca_T 100 (ca_G σ sh R C) C (R * C) (f + 1) (m_dg k))) f _ _ (fun q q1 q2 => ⟨(hT1 q q1).symm, fun _ => rfl⟩)) ?_
      congr 1
      rw [m_wr, hT0]
      by_cases h0 : ca_z 100 (ca_G σ sh R C) C (R * C) f (m_dg k) = 0
      · rw [if_pos h0, if_pos h0, x_up_n (by simp)]
      · rw [if_neg h0, if_neg h0, x_up_n (by simp), x_up_s]
/-- what the reference's finds asks for -/
theorem ca_hch (hH : ca_H σ sh R C) {p k : Nat} (hp : p < R * C) (hk : k < 4 ^ C) : ¬ m_F σ sh R C (R * C - p) k = -1000000 ∧ ∃ z, z ≤ 3 ∧ m_cF σ sh R C p k z (m_F σ sh R C (R * C - (p + 1))) = m_F σ sh R C (R * C - p) k := by
  have hN := ca_N36 hH
  obtain ⟨f, hf⟩ : ∃ f, R * C - (p + 1) = f := ⟨_, rfl⟩
  have hp1 : R * C - p = f + 1 := by omega
  have hp2 : p = R * C - (f + 1) := by omega
  have hA := ca_At hH (show f + 1 ≤ 36 by omega) (m_dg k)
  rw [hp1, hf]
  have eM := ca_M hH (f + 1) (by omega) k hk
  refine ⟨fun q => ?_, ?_⟩
  · rw [eM, oI_nev] at q
    have := (oI_eq (b := -1000000) (by omega) (by omega) (by decide) (by decide)).mp q
    omega
  · have e0 := ca_g0 (p := p) (ca_M hH f (by omega)) hH hk
    have hF := ca_M hH f (by omega)
    by_cases h : 0 < m_dg k (p % C)
    · refine ⟨0, by decide, ?_⟩
      rw [e0, eM, ca_A, ← hp2, if_pos h, ca_nx, if_pos rfl, if_pos h]
    · have hat : ca_A 100 (ca_G σ sh R C) C (R * C) (f + 1) (m_dg k) = ca_A 100 (ca_G σ sh R C) C (R * C) f (m_dg k) ∨ ∃ n, 1 ≤ n ∧ n ≤ 3 ∧ ca_A 100 (ca_G σ sh R C) C (R * C) (f + 1) (m_dg k) = ca_c 100 (ca_G σ sh R C) C p (ca_A 100 (ca_G σ sh R C) C (R * C) f) (m_dg k) n := by
        rw [ca_A, ← hp2, if_neg h]
        have hm : ∀ a b : Int, ca_m a b = a ∨ ca_m a b = b := fun a b => by unfold ca_m; split <;> simp
        rcases hm (ca_m (ca_m (ca_A 100 (ca_G σ sh R C) C (R * C) f (m_dg k)) (ca_c 100 (ca_G σ sh R C) C p (ca_A 100 (ca_G σ sh R C) C (R * C) f) (m_dg k) 1)) (ca_c 100 (ca_G σ sh R C) C p (ca_A 100 (ca_G σ sh R C) C (R * C) f) (m_dg k) 2)) (ca_c 100 (ca_G σ sh R C) C p (ca_A 100 (ca_G σ sh R C) C (R * C) f) (m_dg k) 3) with q | q
        · rw [q]
          rcases hm (ca_m (ca_A 100 (ca_G σ sh R C) C (R * C) f (m_dg k)) (ca_c 100 (ca_G σ sh R C) C p (ca_A 100 (ca_G σ sh R C) C (R * C) f) (m_dg k) 1)) (ca_c 100 (ca_G σ sh R C) C p (ca_A 100 (ca_G σ sh R C) C (R * C) f) (m_dg k) 2) with q | q
          · rw [q]
            rcases hm (ca_A 100 (ca_G σ sh R C) C (R * C) f (m_dg k)) (ca_c 100 (ca_G σ sh R C) C p (ca_A 100 (ca_G σ sh R C) C (R * C) f) (m_dg k) 1) with q | q
            · exact Or.inl q
            · exact Or.inr ⟨1, by decide, by decide, q⟩
          · exact Or.inr ⟨2, by decide, by decide, q⟩
        · exact Or.inr ⟨3, by decide, by decide, q⟩
      have hz0 : ca_A 100 (ca_G σ sh R C) C (R * C) (f + 1) (m_dg k) = ca_A 100 (ca_G σ sh R C) C (R * C) f (m_dg k) → ∃ z, z ≤ 3 ∧ m_cF σ sh R C p k z (m_F σ sh R C f) = m_F σ sh R C (f + 1) k := fun q => ⟨0, by decide, by rw [e0, eM, q, ca_nx, if_pos rfl, if_neg h]⟩
      rcases hat with q | ⟨n, h1, h3, q⟩
      · exact hz0 q
      · obtain ⟨v, ev, l, u, hc⟩ := ca_gn (p := p) (n := n) hF hH (by omega) hk h1 h3
        rcases hc with ⟨_, q2⟩ | ⟨_, _, q3⟩
        · exact ⟨n, h3, by rw [ev, eM, q, q2]⟩
        · exact hz0 (q.trans q3)
end CM
