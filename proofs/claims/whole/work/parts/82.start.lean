/-! the start: an empty world -/
def z_n : Nat → Nat := fun _ => 0
def z_σ : x_St := fun _ _ _ => 0
theorem x_unst6 : ∀ j q, x_tp 6 j = some q → z_n (100 + q) ≤ 0 := fun _ _ _ => Nat.le_refl 0
theorem x_unst7 : ∀ j q, x_tp 7 j = some q → fs_X6_init z_n (100 + q) ≤ 0 := by
  intro j q hq
  have h : ∀ k, k < 170 → 136 ≤ k → fs_X6_init z_n k = 0 := by decide +kernel
  unfold x_tp at hq
  simp only at hq
  split at hq
  · cases hq; exact Nat.le_of_eq (h _ (by omega) (by omega))
  · cases hq
theorem x_n0 : x_set (fn_X7_init (x_set (fn_X6_init (x_set z_n 6 (0 + 1))) 7 (0 + 1)) 0) 8 (0 + 1) = x_n 0 0 0 0 := by
  funext k
  have h : ∀ k, k < 70 → (x_set (fn_X7_init (x_set (fn_X6_init (x_set z_n 6 (0 + 1))) 7 (0 + 1)) 0) 8 (0 + 1)) k = x_n 0 0 0 0 k := by decide +kernel
  rcases Nat.lt_or_ge k 70 with q | q
  · exact h k q
  · obtain ⟨j, rfl⟩ : ∃ j, k = j + 70 := ⟨k - 70, by omega⟩
    have e : x_n 0 0 0 0 (j + 70) = 0 := by
      show (if j + 70 < 70 then 1 else 0) = 0
      rw [if_neg (by omega)]
    rw [e]
    simp [x_set, fn_X7_init, fn_X6_init, fn_X2_init, z_n]
theorem x_s0 : fs_X7_init (fs_X6_init z_n) 0 = x_s 0 0 0 0 0 0 := by
  funext k
  have h : ∀ k, k < 170 → (fs_X7_init (fs_X6_init z_n) 0) k = x_s 0 0 0 0 0 0 k := by decide +kernel
  rcases Nat.lt_or_ge k 170 with q | q
  · exact h k q
  · obtain ⟨j, rfl⟩ : ∃ j, k = j + 170 := ⟨k - 170, by omega⟩
    have e : x_s 0 0 0 0 0 0 (j + 170) = 0 := by
      show (if 136 ≤ j + 170 ∧ j + 170 < 170 then 1 else 0) = 0
      rw [if_neg (by omega)]
    rw [e]
    simp [x_set, fs_X7_init, fs_X6_init, fs_X2_init, z_n]
theorem x_R0 : Rl (x_zr (f_X7_init (x_zr (f_X6_init (x_zr z_σ 6 0)) 7 0) 0 ) 8 0) 0 0 0 0 0 := by
  refine ⟨⟨by decide +kernel, by decide, by decide +kernel, by decide +kernel, by decide, by decide +kernel, by decide +kernel, by decide, by decide +kernel, by decide +kernel, by decide, by decide +kernel, by decide +kernel⟩, ⟨?_, ?_, ?_, ?_, ?_, ?_, ?_, ?_, ?_, ?_, ?_, ⟨?_, ?_⟩, ?_, ?_⟩, ⟨?_, ?_, ?_, ?_, ?_, ?_, ?_⟩, ?_, ⟨?_, ?_, ?_⟩, ⟨?_, ?_, ?_, ?_, ?_, ?_⟩⟩
  · exact fun i hi => absurd hi (Nat.not_lt_zero _)
  · exact fun i hi => absurd hi (Nat.not_lt_zero _)
  · exact fun i hi => absurd hi (Nat.not_lt_zero _)
  · exact fun i hi => absurd hi (Nat.not_lt_zero _)
  · have h : ∀ i, i < 30 → (x_zr (f_X7_init (x_zr (f_X6_init (x_zr z_σ 6 0)) 7 0) 0 ) 8 0) 40 0 i = 0 := by decide +kernel
    exact fun i _ hi => h i hi
  · exact fun i hi => absurd hi (Nat.not_lt_zero _)
  · exact fun i hi => absurd hi (Nat.not_lt_zero _)
  · exact fun i hi => absurd hi (Nat.not_lt_zero _)
  · exact fun i y x hi => absurd hi (Nat.not_lt_zero _)
  · exact fun i y x hi => absurd hi (Nat.not_lt_zero _)
  · decide +kernel
  · have h : ∀ d, d < 40 → (x_zr (f_X7_init (x_zr (f_X6_init (x_zr z_σ 6 0)) 7 0) 0 ) 8 0) 11 0 d = nI 0 := by decide +kernel
    exact fun d hd => ⟨0, by decide, h d hd⟩
  · have h : ∀ d, d < 40 → (x_zr (f_X7_init (x_zr (f_X6_init (x_zr z_σ 6 0)) 7 0) 0 ) 8 0) 11 0 d = 0 := by decide +kernel
    exact fun z z1 z3 => h _ (by omega)
  · exact ⟨0, Nat.le_refl _, by decide +kernel, fun i hi => absurd hi (Nat.not_lt_zero _)⟩
  · exact fun i hi => absurd hi (Nat.not_lt_zero _)
  · exact fun j q hj => absurd hj (Nat.not_lt_zero _)
  · exact fun j hj => absurd hj (Nat.not_lt_zero _)
  · exact fun j hj => absurd hj (Nat.not_lt_zero _)
  · exact fun j hj => absurd hj (Nat.not_lt_zero _)
  · exact fun j hj => absurd hj (Nat.not_lt_zero _)
  · decide +kernel
  · decide +kernel
  · have h : ∀ j, j < 6 → ∀ q, q < 4 → (x_zr (f_X7_init (x_zr (f_X6_init (x_zr z_σ 6 0)) 7 0) 0 ) 8 0) (51 + q) 0 j = (x_zr (f_X7_init (x_zr (f_X6_init (x_zr z_σ 6 0)) 7 0) 0 ) 8 0) 3 j q := by decide +kernel
    exact fun j q hj hq => h j hj q hq
  · exact fun c hc => absurd hc (Nat.not_lt_zero _)
  · exact fun c k hc => absurd hc (Nat.not_lt_zero _)
  · exact fun c hc => absurd hc (Nat.not_lt_zero _)
  · exact fun o q ho => absurd ho (Nat.not_lt_zero _)
  · exact fun o ho => absurd ho (Nat.not_lt_zero _)
  · exact fun o ho => absurd ho (Nat.not_lt_zero _)
  · exact fun q hq => absurd hq (Nat.not_lt_zero _)
  · exact fun o ho => absurd ho (Nat.not_lt_zero _)
  · exact fun p q _ hq => absurd hq (Nat.not_lt_zero _)
