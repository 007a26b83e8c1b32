/-! THE BEST CUT, told once: places of R * C row by row, a digit a column -/
def oI (a : Int) : Int32 := Int32.ofInt a
theorem oI_add (a b : Int) : oI a + oI b = oI (a + b) := (Int32.ofInt_add a b).symm
theorem oI_sub (a b : Int) : oI a - oI b = oI (a - b) := (Int32.ofInt_sub a b).symm
theorem oI_mul (a b : Int) : oI a * oI b = oI (a * b) := (Int32.ofInt_mul a b).symm
theorem oI_toInt {a : Int} (h1 : -2147483648 ≤ a) (h2 : a < 2147483648) : (oI a).toInt = a := by
  rw [oI, Int32.toInt_ofInt_of_le (by simpa using h1) (by simpa using h2)]
theorem oI_lt {a b : Int} (h1 : -2147483648 ≤ a) (h2 : a < 2147483648) (h3 : -2147483648 ≤ b) (h4 : b < 2147483648) : oI a < oI b ↔ a < b := by
  rw [Int32.lt_iff_toInt_lt, oI_toInt h1 h2, oI_toInt h3 h4]
theorem oI_eq {a b : Int} (h1 : -2147483648 ≤ a) (h2 : a < 2147483648) (h3 : -2147483648 ≤ b) (h4 : b < 2147483648) : oI a = oI b ↔ a = b := by
  refine ⟨fun h => ?_, fun h => by rw [h]⟩
  have := congrArg Int32.toInt h
  rwa [oI_toInt h1 h2, oI_toInt h3 h4] at this
theorem oI_nI (n : Nat) : nI n = oI (n : Int) := by
  first | rfl | (unfold nI oI; rfl) | (simp [nI, oI])
theorem oI_lit100 : (100 : Int32) = oI 100 := rfl
theorem oI_nev : (-1000000 : Int32) = oI (-1000000) := rfl
theorem oI_lit1 : (1 : Int32) = oI 1 := rfl
theorem oI_lit64 : (64 : Int32) = oI 64 := rfl
def ca_m (a b : Int) : Int := if a < b then b else a
theorem ca_m_l (a b : Int) : a ≤ ca_m a b := by unfold ca_m; split <;> omega
theorem ca_m_r (a b : Int) : b ≤ ca_m a b := by unfold ca_m; split <;> omega
theorem ca_m_le {a b c : Int} (h1 : a ≤ c) (h2 : b ≤ c) : ca_m a b ≤ c := by unfold ca_m; split <;> omega
theorem ca_m_self (a : Int) : ca_m a a = a := by unfold ca_m; split <;> omega
/-- a digit of the base β -/
def ca_g (β k x : Nat) : Nat := k / β ^ x % β
def ca_dec (d : Nat → Nat) (c : Nat) : Nat → Nat := fun x => if x = c then d c - 1 else d x
def ca_put (d : Nat → Nat) (c n : Nat) : Nat → Nat := fun x => if x = c then n - 1 else if c < x ∧ x < c + n then n else d x
abbrev ca_ok (G : Nat → Nat → Int) (C p : Nat) (d : Nat → Nat) (n : Nat) : Prop := 0 < G p n ∧ ∀ x, x < n → d (p % C + x) = 0
def ca_c (lam : Int) (G : Nat → Nat → Int) (C p : Nat) (F : (Nat → Nat) → Int) (d : Nat → Nat) (n : Nat) : Int := if ca_ok G C p d n then lam * G p n - 1 + F (ca_put d (p % C) n) else F d
def ca_A (lam : Int) (G : Nat → Nat → Int) (C N : Nat) : Nat → (Nat → Nat) → Int
  | 0, _ => 0
  | f + 1, d => if 0 < d ((N - (f + 1)) % C) then ca_A lam G C N f (ca_dec d ((N - (f + 1)) % C)) else
      ca_m (ca_m (ca_m (ca_A lam G C N f d) (ca_c lam G C (N - (f + 1)) (ca_A lam G C N f) d 1)) (ca_c lam G C (N - (f + 1)) (ca_A lam G C N f) d 2)) (ca_c lam G C (N - (f + 1)) (ca_A lam G C N f) d 3)
section CA
variable {lam : Int} {G : Nat → Nat → Int} {C N : Nat}
theorem ca_A_base {f : Nat} {d : Nat → Nat} (h : d ((N - (f + 1)) % C) = 0) : ca_A lam G C N f d ≤ ca_A lam G C N (f + 1) d := by
  rw [ca_A, if_neg (by omega)]
  exact Int.le_trans (ca_m_l _ _) (Int.le_trans (ca_m_l _ _) (ca_m_l _ _))
theorem ca_A_c {f n : Nat} {d : Nat → Nat} (h : d ((N - (f + 1)) % C) = 0) (h1 : 1 ≤ n) (h3 : n ≤ 3) : ca_c lam G C (N - (f + 1)) (ca_A lam G C N f) d n ≤ ca_A lam G C N (f + 1) d := by
  rw [ca_A, if_neg (by omega)]
  have : n = 1 ∨ n = 2 ∨ n = 3 := by omega
  rcases this with rfl | rfl | rfl
  · exact Int.le_trans (ca_m_r _ _) (Int.le_trans (ca_m_l _ _) (ca_m_l _ _))
  · exact Int.le_trans (ca_m_r _ _) (ca_m_l _ _)
  · exact ca_m_r _ _
theorem ca_mono (hl : 1 ≤ lam) : ∀ (f : Nat) (d d' : Nat → Nat), (∀ x, d x ≤ d' x) → ca_A lam G C N f d' ≤ ca_A lam G C N f d
  | 0, _, _, _ => Int.le_refl _
  | f + 1, d, d', h => by
    by_cases h' : 0 < d' ((N - (f + 1)) % C)
    · rw [show ca_A lam G C N (f + 1) d' = ca_A lam G C N f (ca_dec d' ((N - (f + 1)) % C)) by rw [ca_A, if_pos h']]
      by_cases h0 : 0 < d ((N - (f + 1)) % C)
      · rw [ca_A, if_pos h0]
        refine ca_mono hl f _ _ (fun x => ?_)
        have := h x
        unfold ca_dec
        split
        · have := h ((N - (f + 1)) % C); omega
        · exact this
      · refine Int.le_trans (ca_mono hl f d _ (fun x => ?_)) (ca_A_base (by omega))
        have := h x
        unfold ca_dec
        split
        · rename_i hx; subst hx; omega
        · exact this
    · have h0 : d ((N - (f + 1)) % C) = 0 := by have := h ((N - (f + 1)) % C); omega
      have hb : ca_A lam G C N f d' ≤ ca_A lam G C N (f + 1) d := Int.le_trans (ca_mono hl f d d' h) (ca_A_base h0)
      have hc : ∀ n, 1 ≤ n → n ≤ 3 → ca_c lam G C (N - (f + 1)) (ca_A lam G C N f) d' n ≤ ca_A lam G C N (f + 1) d := by
        intro n h1 h3
        rw [ca_c]
        split
        · rename_i hok
          have hok2 : ca_ok G C (N - (f + 1)) d n := ⟨hok.1, fun x hx => by have := hok.2 x hx; have := h ((N - (f + 1)) % C + x); omega⟩
          refine Int.le_trans ?_ (ca_A_c h0 h1 h3)
          rw [ca_c, if_pos hok2]
          have := ca_mono hl f (ca_put d ((N - (f + 1)) % C) n) (ca_put d' ((N - (f + 1)) % C) n) (fun x => by
            unfold ca_put
            split
            · exact Nat.le_refl _
            · split
              · exact Nat.le_refl _
              · exact h x)
          omega
        · exact hb
      rw [show ca_A lam G C N (f + 1) d' = ca_m (ca_m (ca_m (ca_A lam G C N f d') (ca_c lam G C (N - (f + 1)) (ca_A lam G C N f) d' 1)) (ca_c lam G C (N - (f + 1)) (ca_A lam G C N f) d' 2)) (ca_c lam G C (N - (f + 1)) (ca_A lam G C N f) d' 3) by rw [ca_A, if_neg h']]
      exact ca_m_le (ca_m_le (ca_m_le hb (hc 1 (by decide) (by decide))) (hc 2 (by decide) (by decide))) (hc 3 (by decide) (by decide))
theorem ca_put_ge {d : Nat → Nat} {c n : Nat} (hn : 1 ≤ n) (h : ∀ x, x < n → d (c + x) = 0) : ∀ x, d x ≤ ca_put d c n x := by
  intro x
  unfold ca_put
  split
  · rename_i hx
    subst hx
    have := h 0 hn
    simp at this
    omega
  · split
    · rename_i h1 h2
      have := h (x - c) (by omega)
      rw [show c + (x - c) = x by omega] at this
      omega
    · exact Nat.le_refl _
/-- 100 and 64 say the same of worth and number -/
def ca_R (k : Int) (a b : Int) : Prop := ∃ W B : Int, 0 ≤ B ∧ B ≤ k ∧ a = 100 * W - B ∧ b = 64 * W - B
theorem ca_R.lt {k a b a' b' : Int} (hk : k ≤ 36) (h : ca_R k a b) (h' : ca_R k a' b') : (a < a' ↔ b < b') := by
  obtain ⟨W, B, h1, h2, rfl, rfl⟩ := h
  obtain ⟨W', B', h3, h4, rfl, rfl⟩ := h'
  omega
theorem ca_R.eq {k a b a' b' : Int} (hk : k ≤ 36) (h : ca_R k a b) (h' : ca_R k a' b') : (a = a' ↔ b = b') := by
  obtain ⟨W, B, h1, h2, rfl, rfl⟩ := h
  obtain ⟨W', B', h3, h4, rfl, rfl⟩ := h'
  omega
theorem ca_R.mx {k a b a' b' : Int} (hk : k ≤ 36) (h : ca_R k a b) (h' : ca_R k a' b') : ca_R k (ca_m a a') (ca_m b b') := by
  unfold ca_m
  by_cases q : a < a'
  · rw [if_pos q, if_pos ((h.lt hk h').mp q)]; exact h'
  · rw [if_neg q, if_neg (fun w => q ((h.lt hk h').mpr w))]; exact h
theorem ca_R.up {k k' a b : Int} (hk : k ≤ k') (h : ca_R k a b) : ca_R k' a b := by
  obtain ⟨W, B, h1, h2, h3, h4⟩ := h
  exact ⟨W, B, h1, by omega, h3, h4⟩
theorem ca_R.add {k a b g : Int} (h : ca_R k a b) : ca_R (k + 1) (100 * g - 1 + a) (64 * g - 1 + b) := by
  obtain ⟨W, B, h1, h2, h3, h4⟩ := h
  exact ⟨W + g, B + 1, by omega, by omega, by omega, by omega⟩
theorem ca_R_c {f : Nat} (hr : ∀ d, ca_R f (ca_A 100 G C N f d) (ca_A 64 G C N f d)) (p : Nat) (d : Nat → Nat) (n : Nat) : ca_R ((f + 1 : Nat) : Int) (ca_c 100 G C p (ca_A 100 G C N f) d n) (ca_c 64 G C p (ca_A 64 G C N f) d n) := by
  rw [ca_c, ca_c]
  split
  · exact (hr _).add
  · exact (hr d).up (by omega)
theorem ca_R_A : ∀ (f : Nat), f ≤ 36 → ∀ d, ca_R f (ca_A 100 G C N f d) (ca_A 64 G C N f d)
  | 0, _, _ => ⟨0, 0, by decide, by decide, rfl, rfl⟩
  | f + 1, hf, d => by
    have hr := ca_R_A f (by omega)
    rw [ca_A, ca_A]
    split
    · exact (hr _).up (by omega)
    · have hb := (hr d).up (k' := ((f + 1 : Nat) : Int)) (by omega)
      exact ((hb.mx (by omega) (ca_R_c hr _ d 1)).mx (by omega) (ca_R_c hr _ d 2)).mx (by omega) (ca_R_c hr _ d 3)
theorem ca_A_pos (hl : 1 ≤ lam) : ∀ (f : Nat) (d : Nat → Nat), 0 ≤ ca_A lam G C N f d
  | 0, _ => Int.le_refl _
  | f + 1, d => by
    by_cases h : 0 < d ((N - (f + 1)) % C)
    · rw [ca_A, if_pos h]; exact ca_A_pos hl f _
    · exact Int.le_trans (ca_A_pos hl f d) (ca_A_base (by omega))
theorem ca_A_top (hG : ∀ p n, G p n ≤ 999) (hl : 0 ≤ lam) : ∀ (f : Nat) (d : Nat → Nat), ca_A lam G C N f d ≤ (lam * 999) * f
  | 0, _ => by simp [ca_A]
  | f + 1, d => by
    have hm : 0 ≤ lam * 999 := Int.mul_nonneg hl (by decide)
    have e : (lam * 999) * ((f + 1 : Nat) : Int) = (lam * 999) * f + lam * 999 := by rw [Int.natCast_add, Int.mul_add]; simp
    rw [e]
    have hr := ca_A_top hG hl f
    have hc : ∀ n, ca_c lam G C (N - (f + 1)) (ca_A lam G C N f) d n ≤ (lam * 999) * f + lam * 999 := by
      intro n
      rw [ca_c]
      split
      · have h1 := hr (ca_put d ((N - (f + 1)) % C) n)
        have h2 : lam * G (N - (f + 1)) n ≤ lam * 999 := Int.mul_le_mul_of_nonneg_left (hG _ _) hl
        omega
      · have := hr d; omega
    by_cases h : 0 < d ((N - (f + 1)) % C)
    · rw [ca_A, if_pos h]; have := hr (ca_dec d ((N - (f + 1)) % C)); omega
    · rw [ca_A, if_neg h]
      have := hr d
      exact ca_m_le (ca_m_le (ca_m_le (by omega) (hc 1)) (hc 2)) (hc 3)
/-- the greatest size that gives the best -/
def ca_z (lam : Int) (G : Nat → Nat → Int) (C N f : Nat) (d : Nat → Nat) : Nat :=
  if 0 < d ((N - (f + 1)) % C) then 0 else
  if ca_ok G C (N - (f + 1)) d 3 ∧ ca_c lam G C (N - (f + 1)) (ca_A lam G C N f) d 3 = ca_A lam G C N (f + 1) d then 3 else
  if ca_ok G C (N - (f + 1)) d 2 ∧ ca_c lam G C (N - (f + 1)) (ca_A lam G C N f) d 2 = ca_A lam G C N (f + 1) d then 2 else
  if ca_ok G C (N - (f + 1)) d 1 ∧ ca_c lam G C (N - (f + 1)) (ca_A lam G C N f) d 1 = ca_A lam G C N (f + 1) d then 1 else 0
def ca_nx (d : Nat → Nat) (c z : Nat) : Nat → Nat := if z = 0 then (if 0 < d c then ca_dec d c else d) else ca_put d c z
def ca_T (lam : Int) (G : Nat → Nat → Int) (C N : Nat) : Nat → (Nat → Nat) → Nat → Nat
  | 0, _, _ => 0
  | f + 1, d, q => if q = N - (f + 1) then ca_z lam G C N f d else ca_T lam G C N f (ca_nx d ((N - (f + 1)) % C) (ca_z lam G C N f d)) q
theorem ca_z_eq {f : Nat} (hf : f < 36) (d : Nat → Nat) : ca_z 100 G C N f d = ca_z 64 G C N f d := by
  have hr := fun d => ca_R_A (G := G) (C := C) (N := N) f (by omega) d
  have hb := ca_R_A (G := G) (C := C) (N := N) (f + 1) (by omega) d
  have he : ∀ n, (ca_c 100 G C (N - (f + 1)) (ca_A 100 G C N f) d n = ca_A 100 G C N (f + 1) d ↔ ca_c 64 G C (N - (f + 1)) (ca_A 64 G C N f) d n = ca_A 64 G C N (f + 1) d) := fun n => (ca_R_c hr _ d n).eq (by omega) hb
  rw [ca_z, ca_z]
  simp only [he]
theorem ca_T_eq : ∀ (f : Nat), f ≤ 36 → ∀ d, ca_T 100 G C N f d = ca_T 64 G C N f d
  | 0, _, _ => rfl
  | f + 1, hf, d => by
    funext q
    rw [ca_T, ca_T, ca_z_eq (by omega), ca_T_eq f (by omega)]
end CA
