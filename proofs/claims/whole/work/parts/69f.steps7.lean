/-- the queue of days after one more order -/
theorem f_qb_s {num : Nat} : ∀ (t : Nat) (σ : x_St), ∃ p, p ≤ t ∧ (∀ q, q < p → f_qb num t σ 18 0 q = σ 18 0 q) ∧ f_qb num t σ 18 0 p = nI num ∧ (∀ q, p < q → q ≤ t → f_qb num t σ 18 0 q = σ 18 0 (q - 1)) ∧ (∀ q, t < q → f_qb num t σ 18 0 q = σ 18 0 q) ∧ (p = 0 ∨ ¬ σ 4 num 5 < σ 4 (x_c (σ 18 0 (p - 1))) 5) ∧ ∀ q, p ≤ q → q < t → σ 4 num 5 < σ 4 (x_c (σ 18 0 q)) 5
  | 0, σ => ⟨0, Nat.le_refl _, fun q h => absurd h (Nat.not_lt_zero _), x_up_s, fun q h1 h2 => by omega, fun q h => x_up_n (by omega), Or.inl rfl, fun q h1 h2 => by omega⟩
  | t + 1, σ => by
    rw [f_qb]
    by_cases h : σ 4 num 5 < σ 4 (x_c (σ 18 0 t)) 5
    · rw [if_pos h]
      obtain ⟨p, h1, h2, h3, h4, h5, h6, h7⟩ := f_qb_s (num := num) t (x_up σ 18 0 (t + 1) (σ 18 0 t))
      have e4 : ∀ o, x_up σ 18 0 (t + 1) (σ 18 0 t) 4 o 5 = σ 4 o 5 := fun o => x_up_n (by omega)
      have e18 : ∀ q, q ≤ t → x_up σ 18 0 (t + 1) (σ 18 0 t) 18 0 q = σ 18 0 q := fun q hq => x_up_n (by omega)
      refine ⟨p, by omega, fun q hq => by rw [h2 q hq, e18 q (by omega)], h3, fun q q1 q2 => ?_, fun q hq => by rw [h5 q (by omega), x_up_n (by omega)], ?_, fun q q1 q2 => ?_⟩
      · by_cases e : q = t + 1
        · subst e; rw [h5 _ (by omega), x_up_s]; rfl
        · rw [h4 q q1 (by omega), e18 _ (by omega)]
      · rcases h6 with h6 | h6
        · exact Or.inl h6
        · right
          rw [e4, e4, e18 _ (by omega)] at h6
          exact h6
      · by_cases e : q = t
        · subst e; exact h
        · have := h7 q q1 (by omega)
          rw [e4, e4, e18 _ (by omega)] at this
          exact this
    · rw [if_neg h]
      exact ⟨t + 1, Nat.le_refl _, fun q hq => x_up_n (by omega), x_up_s, fun q q1 q2 => by omega, fun q hq => x_up_n (by omega), Or.inr h, fun q q1 q2 => by omega⟩
theorem f_X4_k {σ : x_St} {i : Nat} {a b d f g h k : Int32} {a' b' d' : Nat} (q : ¬ (a' = 4 ∧ b' = i)) : f_X4_init (x_zr σ 4 i) i a b d f g h k a' b' d' = σ a' b' d' := by
  rw [f_X4_init, x_up_n (by omega), x_up_n (by omega), x_up_n (by omega), x_up_n (by omega), x_up_n (by omega), x_up_n (by omega), x_up_n (by omega), x_up_n (by omega), x_zr, if_neg (by omega)]
theorem sp_order {ad : Nat → Nat → Nat} {nS nB nC nO N : Nat} {σ : x_St} {a b d f g h k : Int32} {r : Int32} {ad' : Nat → Nat → Nat} {m' : Nat} {τ : x_St} (hh : Rl σ nS nB nC nO N) (hq : q_X6_order ad (x_n nS nB nC nO) σ a b d f g h k nO r (ad', m', τ)) : x_M7 σ τ ∧ ∀ (r' : Int32) (v : x_St), q_X7_order τ a b d f g h k nO r' v → r = r' ∧ Rl v nS nB nC m' (N + 1) := by
  obtain ⟨hag, hc1, hc2⟩ := hq
  dsimp only at hc1 hc2
  by_cases hP : nO < 30 ∧ (1 ≤ a ∧ a ≤ 9) ∧ (1 ≤ b ∧ b ≤ 3) ∧ (d = 2 ∨ d = 4) ∧ (0 ≤ f ∧ f ≤ 9) ∧ (f ≤ g ∧ g ≤ 9) ∧ (0 ≤ h ∧ h ≤ 999) ∧ 0 ≤ k ∧ k ≤ 999
  · obtain ⟨rfl, rfl, rfl⟩ := hc1 hP
    obtain ⟨ea, ga⟩ := x_ixle (Int32.le_trans (by decide) hP.2.1.1) hP.2.1.2 (N := 9) rfl (by decide)
    obtain ⟨eh, gh⟩ := x_ixle hP.2.2.2.2.2.2.1.1 hP.2.2.2.2.2.2.1.2 (N := 999) rfl (by decide)
    have hko : ∀ a' b' d', ¬ a' = 18 → ¬ (a' = 4 ∧ b' = nO) → f_or σ a b d f g h k nO a' b' d' = σ a' b' d' := fun a' b' d' q1 q2 => by
      unfold f_or
      rw [f_qb_k _ _ _ _ _ _ q1, f_X4_k q2]
    have hσ7 : x_M7 σ (x_up (f_or σ a b d f g h k nO) 6 0 8 (nI (nO + 1))) := fun a' b' d' q => by
      rw [x_up_n (by omega)]; exact hko a' b' d' (by omega) (by omega)
    refine ⟨hσ7, fun r' v hv => ?_⟩
    obtain ⟨rfl, rfl⟩ := hv.1 ⟨hP.1, ⟨hP.2.1, hP.2.2.1, hP.2.2.2.1, hP.2.2.2.2.1.1, hP.2.2.2.2.2.1.1, hP.2.2.2.2.2.1.2⟩, hP.2.2.2.2.2.2.1, hP.2.2.2.2.2.2.2⟩
    refine ⟨rfl, ?_⟩
    -- the queue
    obtain ⟨p, s1, s2, s3, s4, s5, s6, s7⟩ := f_qb_s (num := nO) nO (f_X4_init (x_zr σ 4 nO) nO a b d f g h k)
    have e18 : ∀ q, f_X4_init (x_zr σ 4 nO) nO a b d f g h k 18 0 q = σ 18 0 q := fun q => f_X4_k (by omega)
    have e4o : ∀ o q, ¬ o = nO → f_X4_init (x_zr σ 4 nO) nO a b d f g h k 4 o q = σ 4 o q := fun o q ho => f_X4_k (by omega)
    have e4n : ∀ q, q < 8 → f_X4_init (x_zr σ 4 nO) nO a b d f g h k 4 nO q = (if q = 0 then a else if q = 1 then b else if q = 2 then d else if q = 3 then f else if q = 4 then g else if q = 5 then h else if q = 6 then k else -1) := fun q hq => by
      have : q = 0 ∨ q = 1 ∨ q = 2 ∨ q = 3 ∨ q = 4 ∨ q = 5 ∨ q = 6 ∨ q = 7 := by omega
      rcases this with rfl | rfl | rfl | rfl | rfl | rfl | rfl | rfl <;> simp [f_X4_init, x_up, x_zr]
    simp only [e18] at s2 s4 s5 s6 s7
    have hvk : ∀ a' b' d', ¬ (a' = 18 ∨ (a' = 4 ∧ b' = nO)) → ¬ (60 ≤ a' ∧ a' ≤ 67 ∧ d' = nO) → ¬ (a' = 7 ∧ (d' = 0 ∨ d' = 4)) → ¬ (a' = 6 ∧ d' = 8) → m_ord (x_up (f_or σ a b d f g h k nO) 6 0 8 (nI (nO + 1))) a b d f g h k nO a' b' d' = σ a' b' d' := fun a' b' d' q1 q2 q3 q4 => by
      rw [m_ord, x_up_n (by omega), x_up_n (by omega), x_up_n (by omega), x_up_n (by omega), x_up_n (by omega), x_up_n (by omega), x_up_n (by omega), x_up_n (by omega), x_up_n (by omega), x_up_n (by omega), x_up_n (by omega)]
      exact hko a' b' d' (by omega) (by omega)
    have hvc : ∀ a' b' d', a' = 18 ∨ a' = 4 → m_ord (x_up (f_or σ a b d f g h k nO) 6 0 8 (nI (nO + 1))) a b d f g h k nO a' b' d' = f_qb nO nO (f_X4_init (x_zr σ 4 nO) nO a b d f g h k) a' b' d' := fun a' b' d' q => by
      rw [m_ord, x_up_n (by omega), x_up_n (by omega), x_up_n (by omega), x_up_n (by omega), x_up_n (by omega), x_up_n (by omega), x_up_n (by omega), x_up_n (by omega), x_up_n (by omega), x_up_n (by omega), x_up_n (by omega)]; rfl
    have hv68 : m_ord (x_up (f_or σ a b d f g h k nO) 6 0 8 (nI (nO + 1))) a b d f g h k nO 6 0 8 = nI (nO + 1) := by simp [m_ord, x_up]
    have hv74 : m_ord (x_up (f_or σ a b d f g h k nO) 6 0 8 (nI (nO + 1))) a b d f g h k nO 7 0 4 = nI (nO + 1) := by simp [m_ord, x_up]
    have hv60 : ∀ q, q < 8 → m_ord (x_up (f_or σ a b d f g h k nO) 6 0 8 (nI (nO + 1))) a b d f g h k nO (60 + q) 0 nO = (if q = 0 then a else if q = 1 then b else if q = 2 then d else if q = 3 then f else if q = 4 then g else if q = 5 then h else if q = 6 then k else -1) := fun q hq => by
      have : q = 0 ∨ q = 1 ∨ q = 2 ∨ q = 3 ∨ q = 4 ∨ q = 5 ∨ q = 6 ∨ q = 7 := by omega
      rcases this with rfl | rfl | rfl | rfl | rfl | rfl | rfl | rfl <;> simp [m_ord, x_up]
    generalize m_ord (x_up (f_or σ a b d f g h k nO) 6 0 8 (nI (nO + 1))) a b d f g h k nO = v at hvk hvc hv68 hv74 hv60 ⊢
    have v18 : ∀ q, v 18 0 q = f_qb nO nO (f_X4_init (x_zr σ 4 nO) nO a b d f g h k) 18 0 q := fun q => hvc 18 0 q (by omega)
    have v4 : ∀ o q, v 4 o q = f_X4_init (x_zr σ 4 nO) nO a b d f g h k 4 o q := fun o q => by rw [hvc 4 o q (by omega), f_qb_k _ _ _ _ _ _ (by decide)]
    have v4o : ∀ o q, ¬ o = nO → v 4 o q = σ 4 o q := fun o q ho => by rw [v4, e4o o q ho]
    have v4n : ∀ q, q < 8 → v 4 nO q = (if q = 0 then a else if q = 1 then b else if q = 2 then d else if q = 3 then f else if q = 4 then g else if q = 5 then h else if q = 6 then k else -1) := fun q hq => by rw [v4, e4n q hq]
    have vd : v 4 nO 5 = h := v4n 5 (by decide)
    have hO := hh.O
    have hb := hO.b
    have c0 : x_c (nI nO) = nO := x_cn (by have := hh.K.O0; omega)
    -- what stands at a place of the queue
    have hpl : ∀ q, q ≤ nO → (q < p ∧ v 18 0 q = σ 18 0 q ∧ q < nO) ∨ (q = p ∧ v 18 0 q = nI nO) ∨ (p < q ∧ v 18 0 q = σ 18 0 (q - 1) ∧ q - 1 < nO) := fun q hq => by
      rcases Nat.lt_trichotomy q p with w | w | w
      · exact Or.inl ⟨w, by rw [v18]; exact s2 q w, by omega⟩
      · exact Or.inr (Or.inl ⟨w, by rw [w, v18]; exact s3⟩)
      · exact Or.inr (Or.inr ⟨w, by rw [v18]; exact s4 q w hq, by omega⟩)
    have hday : ∀ o, o < nO → ∃ t, t ≤ 999 ∧ σ 4 o 5 = nI t := hO.d
    have hsame : ∀ q, q < nO → v 4 (x_c (σ 18 0 q)) 5 = σ 4 (x_c (σ 18 0 q)) 5 := fun q hq => v4o _ 5 (by have := (hb q hq).2; omega)
    have hXd : ∀ q, q < nO → f_X4_init (x_zr σ 4 nO) nO a b d f g h k 4 (x_c (σ 18 0 q)) 5 = σ 4 (x_c (σ 18 0 q)) 5 := fun q hq => e4o _ 5 (by have := (hb q hq).2; omega)
    have hXn : f_X4_init (x_zr σ 4 nO) nO a b d f g h k 4 nO 5 = h := e4n 5 (by decide)
    rw [hXn] at s6
    -- those ahead of the new one are due no later, those behind later
    have hahead : ∀ q, q < p → x_c (σ 4 (x_c (σ 18 0 q)) 5) ≤ x_c h := fun q hq => by
      have hp0 : ¬ p = 0 := by omega
      have h6 := s6.resolve_left hp0
      rw [hXd _ (by omega)] at h6
      obtain ⟨t1, t19, et1⟩ := hday _ (hb (p - 1) (by omega)).2
      have hle : x_c (σ 4 (x_c (σ 18 0 (p - 1))) 5) ≤ x_c h := by
        rw [et1, eh] at h6
        rw [et1, x_cn (by omega)]
        exact Nat.not_lt.mp (fun w => h6 ((nI_ltI (by omega) (by omega)).mpr w))
      by_cases e : q = p - 1
      · rw [e]; exact hle
      · have := hO.s q (p - 1) (by omega) (by omega)
        omega
    have hbehind : ∀ q, p ≤ q → q < nO → x_c h < x_c (σ 4 (x_c (σ 18 0 q)) 5) := fun q q1 q2 => by
      have h7 := s7 q q1 q2
      rw [hXn, hXd q q2] at h7
      obtain ⟨t1, t19, et1⟩ := hday _ (hb q q2).2
      rw [et1, eh] at h7
      rw [et1, x_cn (by omega)]
      exact (nI_ltI (by omega) (by omega)).mp h7
    refine ⟨⟨?_, hh.K.S0, ?_, ?_, hh.K.B0, ?_, ?_, hh.K.C0, ?_, hv68, by omega, hv74, ?_⟩, hh.S.up.mv (fun a' b' d' q => hvk a' b' d' (by omega) (by omega) (by omega) (by omega)), hh.B.mv (fun a' b' d' q => hvk a' b' d' (by omega) (by omega) (by omega) (by omega)) (hvk 6 0 12 (by omega) (by omega) (by omega) (by omega)), hh.M.mv (fun a' b' d' q => hvk a' b' d' (by omega) (by omega) (by omega) (by omega)), hh.C.mv (fun a' b' d' q => hvk a' b' d' (by omega) (by omega) (by omega) (by omega)), ?_⟩
    · rw [hvk 6 0 1 (by omega) (by omega) (by omega) (by omega)]; exact hh.K.S
    · rw [hvk 7 0 1 (by omega) (by omega) (by omega) (by omega)]; exact hh.K.S7
    · rw [hvk 6 0 3 (by omega) (by omega) (by omega) (by omega)]; exact hh.K.B
    · rw [hvk 7 0 2 (by omega) (by omega) (by omega) (by omega)]; exact hh.K.B7
    · rw [hvk 6 0 6 (by omega) (by omega) (by omega) (by omega)]; exact hh.K.C
    · rw [hvk 7 0 3 (by omega) (by omega) (by omega) (by omega)]; exact hh.K.C7
    · rw [hvk 7 0 5 (by omega) (by omega) (by omega) (by omega), hvk 6 0 13 (by omega) (by omega) (by omega) (by omega)]; exact hh.K.P
    · refine ⟨?_, ?_, ?_, ?_, ?_, ?_⟩
      · intro o q ho hq
        by_cases w : o = nO
        · subst w; rw [hv60 q hq, v4n q hq]
        · rw [hvk (60 + q) 0 o (by omega) (by omega) (by omega) (by omega), v4o o q w]; exact hO.e o q (by omega) hq
      · intro o ho
        by_cases w : o = nO
        · subst w; exact ⟨x_c a, ga, by rw [v4n 0 (by decide)]; exact ea⟩
        · rw [v4o o 0 w]; exact hO.m o (by omega)
      · intro o ho
        by_cases w : o = nO
        · subst w; exact ⟨x_c h, gh, by rw [vd]; exact eh⟩
        · rw [v4o o 5 w]; exact hO.d o (by omega)
      · intro q hq
        rcases hpl q (by omega) with ⟨w1, w2, w3⟩ | ⟨w1, w2⟩ | ⟨w1, w2, w3⟩
        · rw [w2]; exact ⟨(hb q w3).1, by have := (hb q w3).2; omega⟩
        · rw [w2, c0]; exact ⟨rfl, by omega⟩
        · rw [w2]; exact ⟨(hb _ w3).1, by have := (hb _ w3).2; omega⟩
      · intro o ho
        by_cases w : o = nO
        · exact ⟨p, by omega, by rw [v18, s3, c0, w]⟩
        · obtain ⟨q, q1, q2⟩ := hO.u o (by omega)
          by_cases e : q < p
          · exact ⟨q, by omega, by rw [v18, s2 q e]; exact q2⟩
          · exact ⟨q + 1, by omega, by rw [v18, s4 (q + 1) (by omega) (by omega), Nat.add_sub_cancel]; exact q2⟩
      · intro q1 q2 h1 h2
        rcases hpl q1 (by omega) with ⟨u1, u2, u3⟩ | ⟨u1, u2⟩ | ⟨u1, u2, u3⟩
        · rw [u2, hsame q1 u3]
          rcases hpl q2 (by omega) with ⟨w1, w2, w3⟩ | ⟨w1, w2⟩ | ⟨w1, w2, w3⟩
          · rw [w2, hsame q2 w3]; exact hO.s q1 q2 h1 w3
          · rw [w2, c0, vd]
            have := hahead q1 u1
            have := (hb q1 u3).2
            omega
          · rw [w2, hsame _ w3]; exact hO.s q1 (q2 - 1) (by omega) w3
        · rw [u2, c0, vd]
          rcases hpl q2 (by omega) with ⟨w1, w2, w3⟩ | ⟨w1, w2⟩ | ⟨w1, w2, w3⟩
          · omega
          · omega
          · rw [w2, hsame _ w3]; exact Or.inl (hbehind (q2 - 1) (by omega) w3)
        · rw [u2, hsame _ u3]
          rcases hpl q2 (by omega) with ⟨w1, w2, w3⟩ | ⟨w1, w2⟩ | ⟨w1, w2, w3⟩
          · omega
          · omega
          · rw [w2, hsame _ w3]; exact hO.s (q1 - 1) (q2 - 1) (by omega) w3
  · obtain ⟨rfl, rfl, hσ⟩ := hc2 hP
    replace hσ := hσ.symm; subst hσ
    refine ⟨x_M7.rf σ, fun r' v hv => ?_⟩
    have hP2 : ¬ (m' < 30 ∧ ((1 ≤ a ∧ a ≤ 9) ∧ (1 ≤ b ∧ b ≤ 3) ∧ (d = 2 ∨ d = 4) ∧ 0 ≤ f ∧ f ≤ g ∧ g ≤ 9) ∧ (0 ≤ h ∧ h ≤ 999) ∧ 0 ≤ k ∧ k ≤ 999) := fun q => hP ⟨q.1, q.2.1.1, q.2.1.2.1, q.2.1.2.2.1, ⟨q.2.1.2.2.2.1, Int32.le_trans q.2.1.2.2.2.2.1 q.2.1.2.2.2.2.2⟩, ⟨q.2.1.2.2.2.2.1, q.2.1.2.2.2.2.2⟩, q.2.2.1, q.2.2.2⟩
    obtain ⟨rfl, rfl⟩ := hv.2 hP2
    exact ⟨rfl, hh.rd0 _⟩
