theorem m_cnt_cong {σ σ' : x_St} {v : Int32} : ∀ n, (∀ q, q < n → σ' 46 0 q = σ 46 0 q) → m_cnt σ' v n = m_cnt σ v n
  | 0, _ => rfl
  | n + 1, h => by rw [m_cnt, m_cnt, m_cnt_cong n (fun q hq => h q (by omega)), h n (by omega)]
theorem m_ext_cong {σ σ' : x_St} {b : Int32} {c : Nat} (h : ∀ q, q < 12 → σ' 59 0 (12 * c + q) = σ 59 0 (12 * c + q) ∧ σ' 43 0 (x_c (σ 59 0 (12 * c + q))) = σ 43 0 (x_c (σ 59 0 (12 * c + q)))) : ∀ n, n ≤ 12 → m_ext σ' b c n = m_ext σ b c n
  | 0, _ => by
    obtain ⟨h1, h2⟩ := h 0 (by decide)
    rw [Nat.add_zero] at h1 h2
    rw [m_ext, m_ext, h1, h2]
  | n + 1, hn => by
    obtain ⟨h1, h2⟩ := h n (by omega)
    rw [m_ext, m_ext, h1, h2, m_ext_cong h n (by omega)]
theorem RK.mv {σ σ' : x_St} {nS nB nC nO : Nat} (h : RK σ nS nB nC nO) (h6 : ∀ d, d = 1 ∨ d = 3 ∨ d = 6 ∨ d = 8 ∨ d = 13 → σ' 6 0 d = σ 6 0 d) (h7 : ∀ d, 1 ≤ d ∧ d ≤ 5 → σ' 7 0 d = σ 7 0 d) : RK σ' nS nB nC nO := by
  refine ⟨?_, h.S0, ?_, ?_, h.B0, ?_, ?_, h.C0, ?_, ?_, h.O0, ?_, ?_⟩
  · rw [h6 1 (by simp)]; exact h.S
  · rw [h7 1 (by omega)]; exact h.S7
  · rw [h6 3 (by simp)]; exact h.B
  · rw [h7 2 (by omega)]; exact h.B7
  · rw [h6 6 (by simp)]; exact h.C
  · rw [h7 3 (by omega)]; exact h.C7
  · rw [h6 8 (by simp)]; exact h.O
  · rw [h7 4 (by omega)]; exact h.O7
  · rw [h6 13 (by simp), h7 5 (by omega)]; exact h.P
theorem RS.mv {σ σ' : x_St} {nS N : Nat} (h : RS σ nS N) (hk : ∀ a b d, a = 2 ∨ a = 5 ∨ a = 11 ∨ (15 ≤ a ∧ a ≤ 17) ∨ (36 ≤ a ∧ a ≤ 41) → σ' a b d = σ a b d) : RS σ' nS N := by
  have e5 : ∀ b d, σ' 5 b d = σ 5 b d := fun b d => hk 5 b d (by omega)
  have e11 : ∀ b d, σ' 11 b d = σ 11 b d := fun b d => hk 11 b d (by omega)
  have e2 : ∀ b d, σ' 2 b d = σ 2 b d := fun b d => hk 2 b d (by omega)
  refine ⟨?_, ?_, ?_, ?_, ?_, ?_, ?_, ?_, ?_, ?_, ?_, ?_, ?_, ?_⟩
  · intro i hi; rw [e5, hk 36 0 i (by omega)]; exact h.e0 i hi
  · intro i hi; rw [e5, hk 37 0 i (by omega)]; exact h.e1 i hi
  · intro i hi; rw [e5, hk 38 0 i (by omega)]; exact h.e2 i hi
  · intro i hi; rw [e5, hk 40 0 i (by omega)]; exact h.e4 i hi
  · intro i hi h2; rw [hk 40 0 i (by omega)]; exact h.z4 i hi h2
  · intro i hi; rw [e5]; exact h.i2 i hi
  · intro i hi; rw [e5]; exact h.r i hi
  · intro i hi; rw [e5]; exact h.c i hi
  · intro i y x; rw [e5, e5, hk 15 i _ (by omega), hk 39 0 _ (by omega)]; exact h.g i y x
  · intro i y x; rw [e5, e5, hk 15 i _ (by omega)]; exact h.g0 i y x
  · intro d hd; rw [e11, hk 41 0 d (by omega)]; exact h.w d hd
  · refine ⟨fun d hd => ?_, fun z z1 z3 => ?_⟩
    · rw [e11]; exact h.wk.1 d hd
    · rw [e11]; exact h.wk.2 z z1 z3
  · rw [e2]
    obtain ⟨q, h1, h2, h3⟩ := h.l
    exact ⟨q, h1, h2, fun i hi => by rw [e5]; exact h3 i hi⟩
  · intro i hi; rw [e5, e5, e5, e2]
    exact fun q => f_cu_cong (fun b d => hk 39 b d (by omega)) (fun b d => hk 41 b d (by omega)) (fun d => hk 16 i d (by omega)) (fun d => hk 17 i d (by omega)) (e5 i 7) (e5 i 8) (h.p i hi q)
theorem RB.mv {σ σ' : x_St} {nB nC : Nat} (h : RB σ nB nC) (hk : ∀ a b d, a = 0 ∨ (42 ≤ a ∧ a ≤ 50) → σ' a b d = σ a b d) (h12 : σ' 6 0 12 = σ 6 0 12) : RB σ' nB nC := by
  have e0 : ∀ b d, σ' 0 b d = σ 0 b d := fun b d => hk 0 b d (by omega)
  have ec : ∀ v, m_cnt σ' v nB = m_cnt σ v nB := fun v => m_cnt_cong nB (fun q _ => hk 46 0 q (by omega))
  refine ⟨?_, ?_, ?_, ?_, ?_, ?_, ?_⟩
  · intro j q hj hq; rw [e0, hk (42 + q) 0 j (by omega)]; exact h.e j q hj hq
  · intro j hj; rw [e0]; exact h.z j hj
  · intro j hj; rw [e0]; exact h.t j hj
  · intro j hj; rw [e0]; exact h.i j hj
  · intro j hj; rw [e0, e0]; exact h.h j hj
  · rw [h12, ec]; exact h.k3
  · rw [ec]; exact h.k4
theorem RM.mv {σ σ' : x_St} (h : RM σ) (hk : ∀ a b d, a = 3 ∨ (51 ≤ a ∧ a ≤ 54) → σ' a b d = σ a b d) : RM σ' := by
  intro j q hj hq
  rw [hk 3 j q (by omega), hk (51 + q) 0 j (by omega)]
  exact h j q hj hq
theorem RC.mv {σ σ' : x_St} {nB nC : Nat} (h : RC σ nB nC) (hk : ∀ a b d, a = 1 ∨ a = 10 ∨ a = 43 ∨ (55 ≤ a ∧ a ≤ 59) → σ' a b d = σ a b d) : RC σ' nB nC := by
  have e1 : ∀ b d, σ' 1 b d = σ 1 b d := fun b d => hk 1 b d (by omega)
  refine ⟨?_, ?_, ?_⟩
  · intro c hc; rw [e1, e1, e1, e1, hk 55 0 c (by omega), hk 56 0 c (by omega), hk 57 0 c (by omega), hk 58 0 c (by omega)]; exact h.e c hc
  · intro c k hc hk2; rw [hk 59 0 _ (by omega), hk 10 c k (by omega)]; exact h.o c k hc hk2
  · intro c hc
    have e : ∀ b, m_ext σ' b c 12 = m_ext σ b c 12 := fun b => m_ext_cong (fun q _ => ⟨hk 59 0 _ (by omega), hk 43 0 _ (by omega)⟩) 12 (Nat.le_refl _)
    rw [e1, e1, e, e]; exact h.x c hc
theorem RO.mv {σ σ' : x_St} {nO : Nat} (h : RO σ nO) (hk : ∀ a b d, a = 4 ∨ a = 18 ∨ (60 ≤ a ∧ a ≤ 67) → σ' a b d = σ a b d) : RO σ' nO := by
  have e4 : ∀ b d, σ' 4 b d = σ 4 b d := fun b d => hk 4 b d (by omega)
  have e18 : ∀ d, σ' 18 0 d = σ 18 0 d := fun d => hk 18 0 d (by omega)
  refine ⟨?_, ?_, ?_, ?_, ?_, ?_⟩
  · intro o q ho hq; rw [e4, hk (60 + q) 0 o (by omega)]; exact h.e o q ho hq
  · intro o ho; rw [e4]; exact h.m o ho
  · intro o ho; rw [e4]; exact h.d o ho
  · intro q hq; rw [e18]; exact h.b q hq
  · intro o ho
    obtain ⟨q, h1, h2⟩ := h.u o ho
    exact ⟨q, h1, by rw [e18]; exact h2⟩
  · intro p q h1 h2; rw [e18, e18, e4, e4]; exact h.s p q h1 h2
theorem RS.up {σ : x_St} {nS N : Nat} (h : RS σ nS N) : RS σ nS (N + 1) := by
  obtain ⟨q, h1, h2, h3⟩ := h.l
  exact ⟨h.e0, h.e1, h.e2, h.e4, h.z4, h.i2, h.r, h.c, h.g, h.g0, h.w, h.wk, ⟨q, by omega, h2, h3⟩, h.p⟩
theorem Rl.up {σ : x_St} {nS nB nC nO N : Nat} (h : Rl σ nS nB nC nO N) : Rl σ nS nB nC nO (N + 1) := ⟨h.K, h.S.up, h.B, h.M, h.C, h.O⟩
/-- nothing that binds the two sides has changed -/
theorem Rl.keep {σ σ' : x_St} {nS nB nC nO N : Nat} (h : Rl σ nS nB nC nO N) (hk : ∀ a b d, ¬ (a = 8 ∨ (12 ≤ a ∧ a ≤ 14) ∨ a = 19 ∨ a = 68 ∨ a = 69) → ¬ (a = 7 ∧ (d = 0 ∨ d = 40 ∨ d = 41)) → σ' a b d = σ a b d) : Rl σ' nS nB nC nO (N + 1) :=
  ⟨h.K.mv (fun d _ => hk 6 0 d (by omega) (by omega)) (fun d _ => hk 7 0 d (by omega) (by omega)), h.S.up.mv (fun a b d _ => hk a b d (by omega) (by omega)), h.B.mv (fun a b d _ => hk a b d (by omega) (by omega)) (hk 6 0 12 (by omega) (by omega)), h.M.mv (fun a b d _ => hk a b d (by omega) (by omega)), h.C.mv (fun a b d _ => hk a b d (by omega) (by omega)), h.O.mv (fun a b d _ => hk a b d (by omega) (by omega))⟩
theorem x_M7.rf (σ : x_St) : x_M7 σ σ := fun _ _ _ _ => rfl
theorem x_M7.o {σ u : x_St} (h : x_M7 σ u) (r : Int32) : x_M7 σ (x_up u 8 0 0 r) := fun a b d q => (x_up_n (by omega)).trans (h a b d q)
/-- a call that only reads -/
theorem Rl.rd {σ : x_St} {nS nB nC nO N : Nat} (h : Rl σ nS nB nC nO N) (r t : Int32) : Rl (x_up (x_up σ 8 0 0 r) 7 0 0 t) nS nB nC nO (N + 1) := h.keep (fun a b d q1 q2 => by rw [x_up_n (by omega), x_up_n (by omega)])
theorem Rl.rd0 {σ : x_St} {nS nB nC nO N : Nat} (h : Rl σ nS nB nC nO N) (t : Int32) : Rl (x_up σ 7 0 0 t) nS nB nC nO (N + 1) := h.keep (fun a b d q1 q2 => by rw [x_up_n (by omega)])
theorem Rl.cbH {σ : x_St} {nS nB nC nO N i : Nat} (h : Rl σ nS nB nC nO N) (hi : i < nS) : cb_H σ i (x_c (σ 5 i 0)) (x_c (σ 5 i 1)) ∧ 1 ≤ x_c (σ 5 i 0) := by
  obtain ⟨R, hR1, hR2, hR⟩ := h.S.r i hi
  obtain ⟨C, hC1, hC2, hC⟩ := h.S.c i hi
  have e1 : x_c (σ 5 i 0) = R := by rw [hR, x_cn (by omega)]
  have e2 : x_c (σ 5 i 1) = C := by rw [hC, x_cn (by omega)]
  refine ⟨⟨by omega, by omega, by omega, fun y x h1 h2 => ?_, fun y x h1 h2 h3 => ?_, h.S.w, h.S.wk⟩, by omega⟩
  · exact h.S.g i y x hi h1 h2
  · exact h.S.g0 i y x hi h1 h2 h3
theorem Rl.rm {σ : x_St} {nS nB nC nO N : Nat} (h : Rl σ nS nB nC nO N) : Rm σ nS nB nC nO := by
  refine ⟨h.K.S7, h.K.B7, h.K.C7, h.K.O7, fun i hi => ?_, fun q hq => ?_, fun q hq => ?_, fun q hq => ?_⟩
  · obtain ⟨hH, hR1⟩ := h.cbH hi
    obtain ⟨hR, hR0, hC, hC0, _⟩ := h.sk i hi
    unfold m_fk
    rw [h.S.e0 i hi, h.S.e1 i hi]
    exact ⟨hC, hH.1, hC0, hR, hR0, hH.ca.2.2.2.1, fun p k hp hk => ca_hch hH.ca hp hk⟩
  · obtain ⟨t, h1, h9, e⟩ := h.B.t q hq
    rw [show σ 43 0 q = σ 0 q 1 from h.B.e q 1 hq (by decide), e]
    exact nI_ne0 h1 (by omega)
  · obtain ⟨e, b, hb, e2⟩ := h.C.o (q / 12) (q % 12) (by omega) (by omega)
    rw [show 12 * (q / 12) + q % 12 = q by omega] at e
    have := h.K.B0
    rw [e, e2, x_cn (by omega)]
    exact ⟨rfl, by omega⟩
  · obtain ⟨t, h9, e⟩ := h.O.m q hq
    rw [show σ 60 0 q = σ 4 q 0 from h.O.e q 0 hq (by decide), e, x_cn (by omega)]
    exact ⟨rfl, h9⟩
