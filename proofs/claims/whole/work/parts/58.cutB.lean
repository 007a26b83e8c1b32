/-! digits -/
theorem ca_dig {β : Nat} (hβ : 2 ≤ β) {hi b lo x : Nat} (hb : b < β) (hlo : lo < β ^ x) (y : Nat) : ca_g β (hi * β ^ (x + 1) + b * β ^ x + lo) y = if y < x then lo / β ^ y % β else if y = x then b else hi / β ^ (y - x - 1) % β := by
  have hp : ∀ z, 0 < β ^ z := fun z => Nat.pow_pos (by omega)
  unfold ca_g
  by_cases h1 : y < x
  · rw [if_pos h1]
    obtain ⟨e, rfl⟩ : ∃ e, x = y + 1 + e := ⟨x - y - 1, by omega⟩
    have e1 : hi * β ^ (y + 1 + e + 1) + b * β ^ (y + 1 + e) + lo = lo + β ^ y * (β * (hi * β ^ (e + 1) + b * β ^ e)) := by
      rw [show y + 1 + e + 1 = y + (1 + (e + 1)) by omega, show y + 1 + e = y + (1 + e) by omega, Nat.pow_add β y, Nat.pow_add β 1, Nat.pow_add β y, Nat.pow_add β 1 e, Nat.pow_one, Nat.mul_add, Nat.mul_add]
      simp only [Nat.mul_assoc, Nat.mul_left_comm, Nat.mul_comm]
      omega
    rw [e1, Nat.add_mul_div_left _ _ (hp y), Nat.add_mul_mod_self_left]
  · rw [if_neg h1]
    by_cases h2 : y = x
    · subst h2
      rw [if_pos rfl]
      have e1 : hi * β ^ (y + 1) + b * β ^ y + lo = lo + β ^ y * (b + β * hi) := by
        rw [Nat.pow_succ, Nat.mul_add]
        simp only [Nat.mul_assoc, Nat.mul_left_comm, Nat.mul_comm]
        omega
      rw [e1, Nat.add_mul_div_left _ _ (hp y), Nat.div_eq_of_lt hlo, Nat.zero_add, Nat.add_mul_mod_self_left, Nat.mod_eq_of_lt hb]
    · rw [if_neg h2]
      obtain ⟨e, rfl⟩ : ∃ e, y = x + 1 + e := ⟨y - x - 1, by omega⟩
      rw [show x + 1 + e - x - 1 = e by omega, Nat.pow_add β (x + 1) e, ← Nat.div_div_eq_div_mul]
      congr 2
      have : b * β ^ x + lo < β ^ (x + 1) := by
        rw [Nat.pow_succ, Nat.mul_comm (β ^ x)]
        have := Nat.mul_le_mul_right (β ^ x) (show b + 1 ≤ β by omega)
        rw [Nat.add_mul] at this
        omega
      rw [Nat.add_assoc, Nat.add_comm, Nat.add_mul_div_right _ _ (hp _), Nat.div_eq_of_lt this, Nat.zero_add]
theorem ca_split {β : Nat} (hβ : 2 ≤ β) (k x : Nat) : k = k / β ^ (x + 1) * β ^ (x + 1) + ca_g β k x * β ^ x + k % β ^ x ∧ k % β ^ x < β ^ x ∧ ca_g β k x < β := by
  have hp : 0 < β ^ x := Nat.pow_pos (by omega)
  refine ⟨?_, Nat.mod_lt _ hp, Nat.mod_lt _ (by omega)⟩
  unfold ca_g
  have e1 := Nat.div_add_mod k (β ^ x)
  have e2 := Nat.div_add_mod (k / β ^ x) β
  rw [Nat.div_div_eq_div_mul, ← Nat.pow_succ] at e2
  have e3 : k / β ^ (x + 1) * β ^ (x + 1) + k / β ^ x % β * β ^ x = β ^ x * (β * (k / β ^ (x + 1)) + k / β ^ x % β) := by
    rw [Nat.pow_succ, Nat.mul_add]
    simp only [Nat.mul_assoc, Nat.mul_left_comm, Nat.mul_comm]
  rw [e3, e2]
  exact e1.symm
theorem ca_add {β : Nat} (hβ : 2 ≤ β) {k x b : Nat} (h0 : ca_g β k x = 0) (hb : b < β) (y : Nat) : ca_g β (k + b * β ^ x) y = if y = x then b else ca_g β k y := by
  obtain ⟨e, hlo, _⟩ := ca_split hβ k x
  rw [h0, Nat.zero_mul, Nat.add_zero] at e
  have e2 : k + b * β ^ x = k / β ^ (x + 1) * β ^ (x + 1) + b * β ^ x + k % β ^ x := by omega
  have e3 : k = k / β ^ (x + 1) * β ^ (x + 1) + 0 * β ^ x + k % β ^ x := by omega
  rw [e2, ca_dig hβ hb hlo]
  have h3 := ca_dig hβ (hi := k / β ^ (x + 1)) (show 0 < β by omega) hlo y
  rw [← e3] at h3
  by_cases h1 : y < x
  · rw [if_pos h1, if_neg (by omega), h3, if_pos h1]
  · by_cases h2 : y = x
    · rw [if_neg h1, if_pos h2, if_pos h2]
    · rw [if_neg h1, if_neg h2, if_neg h2, h3, if_neg h1, if_neg h2]
theorem ca_ge {β : Nat} {k x : Nat} (h : 0 < ca_g β k x) : β ^ x ≤ k := by
  rcases Nat.lt_or_ge k (β ^ x) with q | q
  · unfold ca_g at h
    rw [Nat.div_eq_of_lt q, Nat.zero_mod] at h
    exact absurd h (Nat.lt_irrefl _)
  · exact q
theorem ca_sub {β : Nat} (hβ : 2 ≤ β) {k x : Nat} (h : 0 < ca_g β k x) (y : Nat) : ca_g β (k - β ^ x) y = ca_dec (ca_g β k) x y := by
  obtain ⟨e, hlo, hb⟩ := ca_split hβ k x
  have hge := ca_ge h
  have hp : 0 < β ^ x := Nat.pow_pos (by omega)
  have e2 : k - β ^ x = k / β ^ (x + 1) * β ^ (x + 1) + (ca_g β k x - 1) * β ^ x + k % β ^ x := by
    have : ca_g β k x * β ^ x = (ca_g β k x - 1) * β ^ x + β ^ x := by
      obtain ⟨z, hz⟩ : ∃ z, ca_g β k x = z + 1 := ⟨ca_g β k x - 1, by omega⟩
      rw [hz, Nat.add_sub_cancel, Nat.add_mul, Nat.one_mul]
    omega
  have h3 := ca_dig hβ (hi := k / β ^ (x + 1)) hb hlo y
  rw [← e] at h3
  rw [e2, ca_dig hβ (show ca_g β k x - 1 < β by omega) hlo, ca_dec]
  by_cases h1 : y < x
  · rw [if_pos h1, if_neg (by omega), h3, if_pos h1]
  · by_cases h2 : y = x
    · rw [if_neg h1, if_pos h2, if_pos h2]
    · rw [if_neg h1, if_neg h2, if_neg h2, h3, if_neg h1, if_neg h2]
/-- m_ti, told by digits -/
theorem ca_ti {k z : Nat} (hz : z < 4) : ∀ (f x v : Nat), (∀ y, x ≤ y → m_dg v y = m_dg k y) → (m_ti k z f x v = none ∧ ∃ y, x ≤ y ∧ y < x + f ∧ ¬ m_dg k y = 0) ∨ (∃ w, m_ti k z f x v = some w ∧ (∀ y, x ≤ y → y < x + f → m_dg k y = 0) ∧ ∀ y, m_dg w y = if x ≤ y ∧ y < x + f then z else m_dg v y)
  | 0, x, v, _ => Or.inr ⟨v, rfl, fun y h1 h2 => by omega, fun y => by rw [if_neg (by omega)]⟩
  | f + 1, x, v, h => by
    rw [m_ti]
    by_cases h0 : m_dg k x = 0
    · rw [if_pos h0]
      have hv0 : ca_g 4 v x = 0 := (h x (Nat.le_refl _)).trans h0
      have hd : ∀ y, m_dg (v + z * 4 ^ x) y = if y = x then z else m_dg v y := fun y => ca_add (β := 4) (by decide) hv0 hz y
      rcases ca_ti (k := k) hz f (x + 1) (v + z * 4 ^ x) (fun y hy => by rw [hd, if_neg (by omega)]; exact h y (by omega)) with ⟨h1, y, h2, h3, h4⟩ | ⟨w, h1, h2, h3⟩
      · exact Or.inl ⟨h1, y, by omega, by omega, h4⟩
      · refine Or.inr ⟨w, h1, fun y h4 h5 => ?_, fun y => ?_⟩
        · by_cases hy : y = x
          · rw [hy]; exact h0
          · exact h2 y (by omega) (by omega)
        · rw [h3 y, hd y]
          by_cases hy : y = x
          · rw [if_neg (by omega), if_pos hy, if_pos (by omega)]
          · by_cases h6 : x + 1 ≤ y ∧ y < x + 1 + f
            · rw [if_pos h6, if_pos (by omega)]
            · rw [if_neg h6, if_neg hy, if_neg (by omega)]
    · rw [if_neg h0]
      exact Or.inl ⟨rfl, x, Nat.le_refl _, by omega, h0⟩
/-- the reference's next state -/
theorem ca_tn0 {C p k : Nat} : ∃ v, m_tn C p k 0 = some v ∧ ∀ y, m_dg v y = ca_nx (m_dg k) (p % C) 0 y := by
  rw [m_tn, ca_nx, if_pos rfl]
  by_cases h : 0 < m_dg k (p % C)
  · rw [if_pos h, if_pos rfl, if_pos h]
    exact ⟨_, rfl, fun y => ca_sub (β := 4) (by decide) h y⟩
  · rw [if_neg h, if_pos rfl, if_neg h]
    exact ⟨_, rfl, fun _ => rfl⟩
theorem ca_tnz {C p k n : Nat} (h1 : 1 ≤ n) (h3 : n ≤ 3) : ((0 < m_dg k (p % C) ∨ ∃ x, x < n ∧ ¬ m_dg k (p % C + x) = 0) ∧ m_tn C p k n = none) ∨ ((∀ x, x < n → m_dg k (p % C + x) = 0) ∧ ∃ v, m_tn C p k n = some v ∧ ∀ y, m_dg v y = ca_put (m_dg k) (p % C) n y) := by
  rw [m_tn]
  by_cases h : 0 < m_dg k (p % C)
  · rw [if_pos h, if_neg (by omega)]
    exact Or.inl ⟨Or.inl h, rfl⟩
  · rw [if_neg h, if_neg (by omega)]
    rcases ca_ti (k := k) (z := n) (by omega) n (p % C) k (fun _ _ => rfl) with ⟨e, y, h2, h4, h5⟩ | ⟨w, e, h2, h4⟩
    · rw [e]
      exact Or.inl ⟨Or.inr ⟨y - p % C, by omega, by rw [show p % C + (y - p % C) = y by omega]; exact h5⟩, rfl⟩
    · rw [e]
      have hwc : m_dg w (p % C) = n := by rw [h4, if_pos ⟨Nat.le_refl _, by omega⟩]
      refine Or.inr ⟨fun x hx => h2 _ (by omega) (by omega), _, rfl, fun y => ?_⟩
      have hs := ca_sub (β := 4) (k := w) (x := p % C) (by decide) (show 0 < m_dg w (p % C) by omega) y
      refine Eq.trans hs ?_
      show ca_dec (m_dg w) (p % C) y = _
      rw [ca_dec, ca_put]
      by_cases hy : y = p % C
      · rw [if_pos hy, if_pos hy, hwc]
      · rw [if_neg hy, if_neg hy, h4]
        by_cases h6 : p % C < y ∧ y < p % C + n
        · rw [if_pos h6, if_pos (by omega)]
        · rw [if_neg h6, if_neg (by omega)]
