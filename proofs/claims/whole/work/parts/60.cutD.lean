/-! the class's scores are the best cut at 64 -/
theorem th_in_min {G : Nat → Int32} : ∀ (f x a : Nat) (l : Int32), (∀ q, x ≤ q → q < x + f → ∃ t, t ≤ 9 ∧ G q = nI t) → a ≤ 9 → l = nI a → ∃ t, t ≤ a ∧ th_in G f x l = nI t ∧ ∀ q, x ≤ q → q < x + f → ∀ u, u ≤ 9 → G q = nI u → t ≤ u
  | 0, x, a, l, _, _, hl => ⟨a, Nat.le_refl _, hl, fun q h1 h2 => by omega⟩
  | f + 1, x, a, l, hG, ha, hl => by
    obtain ⟨w, hw, ew⟩ := hG x (Nat.le_refl _) (by omega)
    have key : ∃ b, b ≤ a ∧ b ≤ w ∧ (if G x < l then G x else l) = nI b := by
      rw [ew, hl]
      by_cases h : w < a
      · exact ⟨w, by omega, Nat.le_refl _, if_pos ((nI_ltI (by omega) (by omega)).mpr h)⟩
      · exact ⟨a, Nat.le_refl _, by omega, if_neg (fun z => h ((nI_ltI (by omega) (by omega)).mp z))⟩
    obtain ⟨b, hb1, hb2, hb3⟩ := key
    obtain ⟨t, h1, h2, h3⟩ := th_in_min f (x + 1) b _ (fun q q1 q2 => hG q (by omega) (by omega)) (by omega) hb3
    refine ⟨t, by omega, h2, fun q q1 q2 u hu eu => ?_⟩
    by_cases hq : q = x
    · subst hq
      have := (nI_eq (a := w) (b := u) (by omega) (by omega)).mp (ew.symm.trans eu)
      omega
    · exact h3 q (by omega) (by omega) u hu eu
theorem th_out_min {G : Nat → Nat → Int32} {c z : Nat} : ∀ (f y a : Nat) (l : Int32), (∀ q x, y ≤ q → q < y + f → c ≤ x → x < c + z → ∃ t, t ≤ 9 ∧ G q x = nI t) → a ≤ 9 → l = nI a → ∃ t, t ≤ a ∧ th_out G c z f y l = nI t ∧ ∀ q x, y ≤ q → q < y + f → c ≤ x → x < c + z → ∀ u, u ≤ 9 → G q x = nI u → t ≤ u
  | 0, y, a, l, _, _, hl => ⟨a, Nat.le_refl _, hl, fun q x h1 h2 => by omega⟩
  | f + 1, y, a, l, hG, ha, hl => by
    obtain ⟨b, hb1, hb2, hb3⟩ := th_in_min z c a l (fun x h1 h2 => hG y x (Nat.le_refl _) (by omega) h1 h2) ha hl
    obtain ⟨t, h1, h2, h3⟩ := th_out_min f (y + 1) b _ (fun q x q1 q2 => hG q x (by omega) (by omega)) (by omega) hb2
    refine ⟨t, by omega, h2, fun q x q1 q2 q3 q4 u hu eu => ?_⟩
    by_cases hq : q = y
    · subst hq
      have := hb3 x q3 q4 u hu eu
      omega
    · exact h3 q x (by omega) (by omega) q3 q4 u hu eu
theorem th_in_cong {G G' : Nat → Int32} : ∀ (f x : Nat) (l : Int32), (∀ q, x ≤ q → q < x + f → G q = G' q) → th_in G f x l = th_in G' f x l
  | 0, _, _, _ => rfl
  | f + 1, x, l, h => by rw [th_in, th_in, h x (Nat.le_refl _) (by omega), th_in_cong f (x + 1) _ (fun q q1 q2 => h q (by omega) (by omega))]
theorem th_out_cong {G G' : Nat → Nat → Int32} {c z : Nat} : ∀ (f y : Nat) (l : Int32), (∀ q x, y ≤ q → q < y + f → c ≤ x → x < c + z → G q x = G' q x) → th_out G c z f y l = th_out G' c z f y l
  | 0, _, _, _ => rfl
  | f + 1, y, l, h => by rw [th_out, th_out, th_in_cong z c l (fun x q1 q2 => h y x (Nat.le_refl _) (by omega) q1 q2), th_out_cong f (y + 1) _ (fun q x q1 q2 => h q x (by omega) (by omega))]
/-- the class's grid beside the reference's -/
def cb_H (σ : x_St) (i R C : Nat) : Prop := 1 ≤ C ∧ C ≤ 6 ∧ R ≤ 6 ∧ (∀ y x, y < R → x < C → (∃ t, t ≤ 9 ∧ f_G σ i y x = nI t) ∧ m_G σ i C y x = f_G σ i y x) ∧ (∀ y x, y < 6 → x < 6 → ¬ (y < R ∧ x < C) → f_G σ i y x = 0) ∧ (∀ d, d < 40 → σ 41 0 d = σ 11 0 d) ∧ f_wl σ
theorem cb_H.ca {σ : x_St} {i R C : Nat} (h : cb_H σ i R C) : ca_H σ i R C := by
  obtain ⟨h1, h2, h3, h4, h5, h6, h7, h8⟩ := h
  refine ⟨h1, h2, h3, fun y x q1 q2 => ?_, fun d hd => ?_, fun z z1 z3 => ?_⟩
  · rw [(h4 y x q1 q2).2]; exact (h4 y x q1 q2).1
  · rw [h6 d hd]; exact h7 d hd
  · rw [h6 _ (by omega)]; exact h8 z z1 z3
theorem cb_all {σ : x_St} {i R C : Nat} (h : cb_H σ i R C) : ∀ y x, y < 6 → x < 6 → ∃ t, t ≤ 9 ∧ f_G σ i y x = nI t := by
  intro y x hy hx
  by_cases q : y < R ∧ x < C
  · exact (h.2.2.2.1 y x q.1 q.2).1
  · exact ⟨0, by decide, h.2.2.2.2.1 y x hy hx q⟩
theorem cb_zero {σ : x_St} {i R C : Nat} (h : cb_H σ i R C) {r c z y x : Nat} (hr : r + z ≤ 6) (hc : c + z ≤ 6) (hy1 : r ≤ y) (hy2 : y < r + z) (hx1 : c ≤ x) (hx2 : x < c + z) (hout : ¬ (y < R ∧ x < C)) : th_out (f_G σ i) c z z r 9 = 0 := by
  obtain ⟨t, _, e, hm⟩ := th_out_min (G := f_G σ i) (c := c) (z := z) z r 9 9 (fun q x q1 q2 q3 q4 => cb_all h q x (by omega) (by omega)) (by decide) rfl
  have := hm y x hy1 hy2 hx1 hx2 0 (by decide) (h.2.2.2.2.1 y x (by omega) (by omega) hout)
  rw [e, show t = 0 by omega]; rfl
theorem cb_th {σ : x_St} {i R C : Nat} (h : cb_H σ i R C) {r c z : Nat} (hr : r < R) (hc : c < C) : f_bt9 σ i (6 * r + c) z = m_th (m_G σ i C) R C (C * r + c) z := by
  have hC6 := h.2.1
  have hR6 := h.2.2.1
  have d1 : (6 * r + c) / 6 = r := by omega
  have d2 : (6 * r + c) % 6 = c := by omega
  have d3 : (C * r + c) / C = r := by rw [Nat.mul_add_div (by omega), Nat.div_eq_of_lt hc, Nat.add_zero]
  have d4 : (C * r + c) % C = c := by rw [Nat.mul_add_mod, Nat.mod_eq_of_lt hc]
  rw [f_bt9, m_th, m_th, d1, d2, d3, d4]
  by_cases hf : R < r + z ∨ C < c + z
  · rw [if_pos hf]
    by_cases h6 : 6 < r + z ∨ 6 < c + z
    · rw [if_pos h6]
    · rw [if_neg h6]
      rcases hf with q | q
      · exact cb_zero h (by omega) (by omega) (y := R) (x := c) (by omega) (by omega) (by omega) (by omega) (fun w => by omega)
      · exact cb_zero h (by omega) (by omega) (y := r) (x := C) (by omega) (by omega) (by omega) (by omega) (fun w => by omega)
  · rw [if_neg hf, if_neg (by omega)]
    exact th_out_cong z r 9 (fun q x q1 q2 q3 q4 => (h.2.2.2.1 q x (by omega) (by omega)).2.symm)
theorem cb_th0 {σ : x_St} {i R C pl z : Nat} (h : cb_H σ i R C) (hp : pl < 36) (hz : 1 ≤ z) (hout : ¬ (pl / 6 < R ∧ pl % 6 < C)) : f_bt9 σ i pl z = 0 := by
  rw [f_bt9, m_th]
  by_cases h6 : 6 < pl / 6 + z ∨ 6 < pl % 6 + z
  · rw [if_pos h6]
  · rw [if_neg h6]
    exact cb_zero h (by omega) (by omega) (y := pl / 6) (x := pl % 6) (by omega) (by omega) (by omega) (by omega) hout
/-- the gains -/
theorem cb_g {σ : x_St} {i R C : Nat} (h : cb_H σ i R C) {r c z : Nat} (hr : r < R) (hc : c < C) (h1 : 1 ≤ z) (h3 : z ≤ 3) : f_rG σ i 108 12 0 (36 * z + (6 * r + c)) = oI (ca_G σ i R C (C * r + c) z) := by
  have hC6 := h.2.1
  have hR6 := h.2.2.1
  rw [f_rG_v h1 h3 (by omega), cb_th h hr hc]
  obtain ⟨t, ht, et, ev, _⟩ := ca_Gv h.ca (p := C * r + c) h1 h3
  rw [et, x_cn (by omega), ← ev, h.2.2.2.2.2.1 _ (by omega)]
theorem cb_g0 {σ : x_St} {i R C : Nat} (h : cb_H σ i R C) {pl z : Nat} (hp : pl < 36) (h1 : 1 ≤ z) (h3 : z ≤ 3) (hout : ¬ (pl / 6 < R ∧ pl % 6 < C)) : f_rG σ i 108 12 0 (36 * z + pl) = 0 := by
  rw [f_rG_v h1 h3 hp, cb_th0 h hp h1 hout]
  exact h.2.2.2.2.2.2.2 z h1 h3
/-! digits of the class -/
def cb_D (C k : Nat) (d : Nat → Nat) : Prop := (∀ x, ca_g 3 k x = d x) ∧ ∀ x, C ≤ x → d x = 0
theorem cb_dv {k c z : Nat} (h3 : z ≤ 3) : (k / 3 ^ c % 3 ^ z = 0 ↔ ∀ x, x < z → ca_g 3 k (c + x) = 0) := by
  have e : ∀ x, ca_g 3 k (c + x) = k / 3 ^ c / 3 ^ x % 3 := fun x => by rw [ca_g, Nat.pow_add, Nat.div_div_eq_div_mul]
  simp only [e]
  generalize k / 3 ^ c = q
  have hz : z = 0 ∨ z = 1 ∨ z = 2 ∨ z = 3 := by omega
  rcases hz with rfl | rfl | rfl | rfl
  · exact ⟨fun _ x hx => absurd hx (Nat.not_lt_zero _), fun _ => by omega⟩
  · refine ⟨fun h x hx => ?_, fun h => ?_⟩
    · have : x = 0 := by omega
      subst this; simp at h ⊢; omega
    · have := h 0 (by decide); simp at this ⊢; omega
  · refine ⟨fun h x hx => ?_, fun h => ?_⟩
    · have : x = 0 ∨ x = 1 := by omega
      rcases this with rfl | rfl <;> simp at h ⊢ <;> omega
    · have h0 := h 0 (by decide); have h1 := h 1 (by decide); simp at h0 h1 ⊢; omega
  · refine ⟨fun h x hx => ?_, fun h => ?_⟩
    · have : x = 0 ∨ x = 1 ∨ x = 2 := by omega
      rcases this with rfl | rfl | rfl <;> simp at h ⊢ <;> omega
    · have h0 := h 0 (by decide); have h1 := h 1 (by decide); have h2 := h 2 (by decide); simp at h0 h1 h2 ⊢; omega
/-- the digits when a blank of size z stands from column c on, j of its columns passed -/
def cb_e (d : Nat → Nat) (c z j : Nat) : Nat → Nat := fun x => if c ≤ x ∧ x < c + j then z - 1 else if c ≤ x ∧ x < c + z then z else d x
theorem cb_pw {C k pl z : Nat} {d : Nat → Nat} (h : cb_D C k d) (h1 : 1 ≤ z) (h3 : z ≤ 3) (hc : pl % 6 + z ≤ C) (h0 : ∀ x, x < z → d (pl % 6 + x) = 0) : cb_D C (f_pw z pl k) (cb_e d (pl % 6) z z) := by
  obtain ⟨hd, hz⟩ := h
  generalize hcc : pl % 6 = c at hc h0 ⊢
  refine ⟨fun x => ?_, fun x hx => ?_⟩
  · rw [f_pw, hcc]
    have hz : z = 1 ∨ z = 2 ∨ z = 3 := by omega
    rcases hz with rfl | rfl | rfl
    · simp only [Nat.sub_self, Nat.zero_mul, Nat.add_zero, cb_e]
      by_cases q : c ≤ x ∧ x < c + 1
      · rw [if_pos q, hd, show x = c + 0 by omega]; exact h0 0 (by decide)
      · rw [if_neg q, if_neg q]; exact hd x
    · have a0 : ca_g 3 k c = 0 := (hd c).trans (h0 0 (by decide))
      have a1 := ca_add (β := 3) (by decide) (b := 1) a0 (by decide)
      have b0 : ca_g 3 (k + 1 * 3 ^ c) (c + 1) = 0 := by rw [a1, if_neg (by omega), hd]; exact h0 1 (by decide)
      have b1 := ca_add (β := 3) (by decide) (b := 1) b0 (by decide)
      have e : k + (2 - 1) * ((3 ^ 2 - 1) / 2) * 3 ^ c = k + 1 * 3 ^ c + 1 * 3 ^ (c + 1) := by rw [Nat.pow_succ]; omega
      rw [e, b1, a1, cb_e]
      by_cases q1 : x = c + 1
      · rw [if_pos q1, if_pos (by omega)]
      · by_cases q2 : x = c
        · rw [if_neg q1, if_pos q2, if_pos (by omega)]
        · rw [if_neg q1, if_neg q2, if_neg (by omega), if_neg (by omega)]; exact hd x
    · have a0 : ca_g 3 k c = 0 := (hd c).trans (h0 0 (by decide))
      have a1 := ca_add (β := 3) (by decide) (b := 2) a0 (by decide)
      have b0 : ca_g 3 (k + 2 * 3 ^ c) (c + 1) = 0 := by rw [a1, if_neg (by omega), hd]; exact h0 1 (by decide)
      have b1 := ca_add (β := 3) (by decide) (b := 2) b0 (by decide)
      have g0 : ca_g 3 (k + 2 * 3 ^ c + 2 * 3 ^ (c + 1)) (c + 2) = 0 := by rw [b1, if_neg (by omega), a1, if_neg (by omega), hd]; exact h0 2 (by decide)
      have g1 := ca_add (β := 3) (by decide) (b := 2) g0 (by decide)
      have e : k + (3 - 1) * ((3 ^ 3 - 1) / 2) * 3 ^ c = k + 2 * 3 ^ c + 2 * 3 ^ (c + 1) + 2 * 3 ^ (c + 2) := by rw [Nat.pow_succ, show c + 2 = c + 1 + 1 from rfl, Nat.pow_succ, Nat.pow_succ]; omega
      rw [e, g1, b1, a1, cb_e]
      by_cases q0 : x = c + 2
      · rw [if_pos q0, if_pos (by omega)]
      · by_cases q1 : x = c + 1
        · rw [if_neg q0, if_pos q1, if_pos (by omega)]
        · by_cases q2 : x = c
          · rw [if_neg q0, if_neg q1, if_pos q2, if_pos (by omega)]
          · rw [if_neg q0, if_neg q1, if_neg q2, if_neg (by omega), if_neg (by omega)]; exact hd x
  · rw [cb_e, if_neg (by omega), if_neg (by omega)]; exact hz x hx
theorem cb_wo {C k pl : Nat} {d : Nat → Nat} (h : cb_D C k d) : cb_D C (f_wo pl k) (ca_nx d (pl % 6) 0) := by
  obtain ⟨hd, hz⟩ := h
  have e : k / 3 ^ (pl % 6) % 3 = d (pl % 6) := hd (pl % 6)
  rw [f_wo, ca_nx, if_pos rfl, e]
  by_cases q : 0 < d (pl % 6)
  · rw [if_pos q, if_pos q]
    have q2 : 0 < ca_g 3 k (pl % 6) := by rw [hd]; exact q
    refine ⟨fun x => ?_, fun x hx => ?_⟩
    · rw [ca_sub (β := 3) (by decide) q2, show ca_g 3 k = d from funext hd]
    · rw [ca_dec]
      split
      · rename_i hx2; rw [← hx2, hz x hx]
      · exact hz x hx
  · rw [if_neg q, if_neg q]
    exact ⟨hd, hz⟩
/-- the places that a blank covers in its own row give nothing -/
theorem cb_skip {lam : Int} {G : Nat → Nat → Int} {C N p c z : Nat} {d : Nat → Nat} (h1 : 1 ≤ z) (hpc : p % C = c) (hc : c + z ≤ C) (hN : p + z ≤ N) : ∀ (m j : Nat), j + m = z → 1 ≤ j → ca_A lam G C N (N - (p + j)) (cb_e d c z j) = ca_A lam G C N (N - (p + z)) (cb_e d c z z) ∧ ∀ q, p + j ≤ q → ca_T lam G C N (N - (p + j)) (cb_e d c z j) q = if q < p + z then 0 else ca_T lam G C N (N - (p + z)) (cb_e d c z z) q
  | 0, j, hj, _ => by
    have : j = z := by omega
    subst this
    exact ⟨rfl, fun q hq => by rw [if_neg (by omega)]⟩
  | m + 1, j, hj, hj1 => by
    obtain ⟨i1, i2⟩ := cb_skip h1 hpc hc hN m (j + 1) (by omega) (by omega)
    obtain ⟨f, hf⟩ : ∃ f, N - (p + j) = f + 1 := ⟨N - (p + j) - 1, by omega⟩
    have hf2 : N - (p + (j + 1)) = f := by omega
    have hpos : N - (f + 1) = p + j := by omega
    have hcol : (p + j) % C = c + j := by
      have e := Nat.div_add_mod p C
      rw [hpc] at e
      rw [← e, Nat.add_assoc, Nat.mul_add_mod, Nat.mod_eq_of_lt (by omega)]
    have hdg : cb_e d c z j (c + j) = z := by rw [cb_e, if_neg (by omega), if_pos (by omega)]
    have hdec : ca_dec (cb_e d c z j) (c + j) = cb_e d c z (j + 1) := by
      funext x
      rw [ca_dec, hdg]
      by_cases q : x = c + j
      · rw [if_pos q, cb_e, if_pos (by omega)]
      · rw [if_neg q, cb_e, cb_e]
        by_cases q2 : c ≤ x ∧ x < c + j
        · rw [if_pos q2, if_pos (by omega)]
        · rw [if_neg q2]
          by_cases q3 : c ≤ x ∧ x < c + (j + 1)
          · omega
          · rw [if_neg q3]
    rw [hf2] at i1 i2
    rw [hf]
    constructor
    · rw [ca_A, hpos, hcol, hdg, if_pos (by omega), hdec]
      exact i1
    · intro q hq
      have hz0 : ca_z lam G C N f (cb_e d c z j) = 0 := by rw [ca_z, if_pos (show 0 < cb_e d c z j ((N - (f + 1)) % C) by rw [hpos, hcol, hdg]; omega)]
      rw [ca_T, hpos, hz0]
      by_cases q1 : q = p + j
      · rw [if_pos q1, if_pos (by omega)]
      · rw [if_neg q1, hcol, ca_nx, if_pos rfl, hdg, if_pos (by omega), hdec]
        exact i2 q (by omega)
theorem cb_put {d : Nat → Nat} {c z : Nat} (h1 : 1 ≤ z) : ca_put d c z = cb_e d c z 1 := by
  funext x
  rw [ca_put, cb_e]
  by_cases q : x = c
  · rw [if_pos q, if_pos (by omega)]
  · rw [if_neg q, if_neg (show ¬ (c ≤ x ∧ x < c + 1) by omega)]
    by_cases q2 : c < x ∧ x < c + z
    · rw [if_pos q2, if_pos (show c ≤ x ∧ x < c + z by omega)]
    · rw [if_neg q2, if_neg (show ¬ (c ≤ x ∧ x < c + z) by omega)]
