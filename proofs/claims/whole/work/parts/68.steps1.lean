theorem x_o8 {σ : x_St} {r : Int32} {a b d : Nat} (h : ¬ a = 8) : x_up σ 8 0 0 r a b d = σ a b d := x_up_n (fun q => h q.1)
theorem x_t8 {σ : x_St} {r t : Int32} : x_up (x_up σ 8 0 0 r) 7 0 0 t 8 0 0 = r := by rw [x_up_n (by simp), x_up_s]
theorem sp_shellOf {ad : Nat → Nat → Nat} {nS nB nC nO N : Nat} {σ : x_St} {a b : Int32} {kk : Int32} {u : x_St} (hh : Rl σ nS nB nC nO N) (hq : q_L_shellOf ad nS nB nC nO σ a b kk u) : x_M7 σ u ∧ ∀ (r : Int32) (v : x_St), q_X7_shellOf u a b r v → v 7 0 0 = kk ∧ (kk = 0 → v 8 0 0 = r) ∧ Rl v nS nB nC nO (N + 1) := by
  have hS : σ 7 0 1 = σ 6 0 1 := hh.K.S7.trans hh.K.S.symm
  rcases hq with ⟨rfl, r, σ', ⟨hσ, hP, hr⟩, rfl⟩ | ⟨rfl, ⟨_, hP⟩, hσ⟩
  · replace hσ := hσ.symm; subst hσ
    refine ⟨(x_M7.rf σ).o r, fun r' v hv => ?_⟩
    obtain ⟨rfl, hv2⟩ := hv
    simp only [x_o8 (show ¬ 7 = 8 by decide), x_o8 (show ¬ 36 = 8 by decide), x_o8 (show ¬ 37 = 8 by decide), x_o8 (show ¬ 38 = 8 by decide), x_o8 (show ¬ 40 = 8 by decide), hS] at hv2 ⊢
    refine ⟨by rw [x_up_s, if_pos hP.1, if_pos hP.2], fun _ => ?_, hh.rd _ _⟩
    rw [x_t8, hr, hv2 hP.1 hP.2]
    have hi : x_c a < nS := (x_ix hP.1.1 hP.1.2 hh.K.S (by have := hh.K.S0; omega)).2
    rw [hh.S.e0 _ hi, hh.S.e1 _ hi, hh.S.e2 _ hi, hh.S.e4 _ hi]
  · replace hσ := hσ.symm; subst hσ
    refine ⟨x_M7.rf σ, fun r' v hv => ?_⟩
    obtain ⟨rfl, hv2⟩ := hv
    rw [hS]
    refine ⟨?_, fun q => absurd q (by decide), hh.rd0 _⟩
    rw [x_up_s]
    by_cases q : 0 ≤ a ∧ a < σ 6 0 1
    · rw [if_pos q, if_neg (fun w => hP ⟨q, w⟩)]
    · rw [if_neg q]
theorem sp_button {ad : Nat → Nat → Nat} {nS nB nC nO N : Nat} {σ : x_St} {a b : Int32} {kk : Int32} {u : x_St} (hh : Rl σ nS nB nC nO N) (hq : q_L_button ad nS nB nC nO σ a b kk u) : x_M7 σ u ∧ ∀ (r : Int32) (v : x_St), q_X7_button u a b r v → v 7 0 0 = kk ∧ (kk = 0 → v 8 0 0 = r) ∧ Rl v nS nB nC nO (N + 1) := by
  have hS : σ 7 0 2 = σ 6 0 3 := hh.K.B7.trans hh.K.B.symm
  rcases hq with ⟨rfl, r, σ', ⟨hσ, hP, hr⟩, rfl⟩ | ⟨rfl, ⟨_, hP⟩, hσ⟩
  · replace hσ := hσ.symm; subst hσ
    refine ⟨(x_M7.rf σ).o r, fun r' v hv => ?_⟩
    obtain ⟨rfl, hv2⟩ := hv
    simp only [x_o8 (show ¬ 7 = 8 by decide), hS] at hv2 ⊢
    refine ⟨by rw [x_up_s, if_pos hP.1, if_pos hP.2], fun _ => ?_, hh.rd _ _⟩
    have hi : x_c a < nB := (x_ix hP.1.1 hP.1.2 hh.K.B (by have := hh.K.B0; omega)).2
    have hb : x_c b ≤ 8 := (x_ixle hP.2.1 hP.2.2 (N := 8) rfl (by decide)).2
    rw [x_t8, hr, hv2 hP.1 hP.2, x_o8 (by omega), hh.B.e _ _ hi hb]
  · replace hσ := hσ.symm; subst hσ
    refine ⟨x_M7.rf σ, fun r' v hv => ?_⟩
    obtain ⟨rfl, hv2⟩ := hv
    rw [hS]
    refine ⟨?_, fun q => absurd q (by decide), hh.rd0 _⟩
    rw [x_up_s]
    by_cases q : 0 ≤ a ∧ a < σ 6 0 3
    · rw [if_pos q, if_neg (fun w => hP ⟨q, w⟩)]
    · rw [if_neg q]
theorem sp_machine {ad : Nat → Nat → Nat} {nS nB nC nO N : Nat} {σ : x_St} {a b : Int32} {kk : Int32} {u : x_St} (hh : Rl σ nS nB nC nO N) (hq : q_L_machine ad nS nB nC nO σ a b kk u) : x_M7 σ u ∧ ∀ (r : Int32) (v : x_St), q_X7_machine u a b r v → v 7 0 0 = kk ∧ (kk = 0 → v 8 0 0 = r) ∧ Rl v nS nB nC nO (N + 1) := by
  rcases hq with ⟨rfl, r, σ', ⟨hσ, hP, hr⟩, rfl⟩ | ⟨rfl, ⟨_, hP⟩, hσ⟩
  · replace hσ := hσ.symm; subst hσ
    refine ⟨(x_M7.rf σ).o r, fun r' v hv => ?_⟩
    obtain ⟨rfl, hv2⟩ := hv
    simp only [x_o8 (show ¬ 51 = 8 by decide), x_o8 (show ¬ 52 = 8 by decide), x_o8 (show ¬ 53 = 8 by decide), x_o8 (show ¬ 54 = 8 by decide)] at hv2
    refine ⟨by rw [x_up_s, if_pos hP.1, if_pos hP.2], fun _ => ?_, hh.rd _ _⟩
    have hi : x_c a ≤ 5 := (x_ixle hP.1.1 hP.1.2 (N := 5) rfl (by decide)).2
    rw [x_t8, hr, hv2 hP.1 hP.2]
    rw [show σ 51 0 (x_c a) = σ 3 (x_c a) 0 from hh.M _ 0 (by omega) (by decide), show σ 52 0 (x_c a) = σ 3 (x_c a) 1 from hh.M _ 1 (by omega) (by decide), show σ 53 0 (x_c a) = σ 3 (x_c a) 2 from hh.M _ 2 (by omega) (by decide), show σ 54 0 (x_c a) = σ 3 (x_c a) 3 from hh.M _ 3 (by omega) (by decide)]
  · replace hσ := hσ.symm; subst hσ
    refine ⟨x_M7.rf σ, fun r' v hv => ?_⟩
    obtain ⟨rfl, hv2⟩ := hv
    refine ⟨?_, fun q => absurd q (by decide), hh.rd0 _⟩
    rw [x_up_s]
    by_cases q : 0 ≤ a ∧ a ≤ 5
    · rw [if_pos q, if_neg (fun w => hP ⟨q, w⟩)]
    · rw [if_neg q]
theorem sp_cardOf {ad : Nat → Nat → Nat} {nS nB nC nO N : Nat} {σ : x_St} {a b : Int32} {kk : Int32} {u : x_St} (hh : Rl σ nS nB nC nO N) (hq : q_L_cardOf ad nS nB nC nO σ a b kk u) : x_M7 σ u ∧ ∀ (r : Int32) (v : x_St), q_X7_cardOf u a b r v → v 7 0 0 = kk ∧ (kk = 0 → v 8 0 0 = r) ∧ Rl v nS nB nC nO (N + 1) := by
  have hS : σ 7 0 3 = σ 6 0 6 := hh.K.C7.trans hh.K.C.symm
  rcases hq with ⟨rfl, r, σ', ⟨hσ, hP, hr⟩, rfl⟩ | ⟨rfl, ⟨_, hP⟩, hσ⟩
  · replace hσ := hσ.symm; subst hσ
    refine ⟨(x_M7.rf σ).o r, fun r' v hv => ?_⟩
    obtain ⟨rfl, hv2⟩ := hv
    simp only [x_o8 (show ¬ 7 = 8 by decide), x_o8 (show ¬ 55 = 8 by decide), x_o8 (show ¬ 56 = 8 by decide), x_o8 (show ¬ 57 = 8 by decide), x_o8 (show ¬ 58 = 8 by decide), hS] at hv2 ⊢
    refine ⟨by rw [x_up_s, if_pos hP.1, if_pos hP.2], fun _ => ?_, hh.rd _ _⟩
    have hi : x_c a < nC := (x_ix hP.1.1 hP.1.2 hh.K.C (by have := hh.K.C0; omega)).2
    obtain ⟨c0, c1, c2, c6⟩ := hh.C.e _ hi
    obtain ⟨x3, x4⟩ := hh.C.x _ hi
    have ee : ∀ b, m_ext (x_up σ 8 0 0 r) b (x_c a) 12 = m_ext σ b (x_c a) 12 := fun b => m_ext_cong (fun q _ => ⟨x_o8 (by decide), x_o8 (by decide)⟩) 12 (Nat.le_refl _)
    rw [x_t8, hr, hv2 hP.1 hP.2, ee, c0, c1, c2, c6]
    obtain ⟨eb, hb⟩ := x_ixle hP.2.1 hP.2.2 (N := 5) rfl (by decide)
    have : x_c b = 0 ∨ x_c b = 1 ∨ x_c b = 2 ∨ x_c b = 3 ∨ x_c b = 4 ∨ x_c b = 5 := by omega
    rcases this with q | q | q | q | q | q <;> rw [q] at eb
    · replace eb : b = 0 := eb
      subst eb
      simp
    · replace eb : b = 1 := eb
      subst eb
      simp
    · replace eb : b = 2 := eb
      subst eb
      simp
    · replace eb : b = 3 := eb
      subst eb
      simpa using x3
    · replace eb : b = 4 := eb
      subst eb
      simpa using x4
    · replace eb : b = 5 := eb
      subst eb
      simp
  · replace hσ := hσ.symm; subst hσ
    refine ⟨x_M7.rf σ, fun r' v hv => ?_⟩
    obtain ⟨rfl, hv2⟩ := hv
    rw [hS]
    refine ⟨?_, fun q => absurd q (by decide), hh.rd0 _⟩
    rw [x_up_s]
    by_cases q : 0 ≤ a ∧ a < σ 6 0 6
    · rw [if_pos q, if_neg (fun w => hP ⟨q, w⟩)]
    · rw [if_neg q]
theorem sp_onCard {ad : Nat → Nat → Nat} {nS nB nC nO N : Nat} {σ : x_St} {a b : Int32} {kk : Int32} {u : x_St} (hh : Rl σ nS nB nC nO N) (hq : q_L_onCard ad nS nB nC nO σ a b kk u) : x_M7 σ u ∧ ∀ (r : Int32) (v : x_St), q_X7_onCard u a b r v → v 7 0 0 = kk ∧ (kk = 0 → v 8 0 0 = r) ∧ Rl v nS nB nC nO (N + 1) := by
  have hS : σ 7 0 3 = σ 6 0 6 := hh.K.C7.trans hh.K.C.symm
  rcases hq with ⟨rfl, r, σ', ⟨hσ, hP, hr⟩, rfl⟩ | ⟨rfl, ⟨_, hP⟩, hσ⟩
  · replace hσ := hσ.symm; subst hσ
    refine ⟨(x_M7.rf σ).o r, fun r' v hv => ?_⟩
    obtain ⟨rfl, hv2⟩ := hv
    simp only [x_o8 (show ¬ 7 = 8 by decide), x_o8 (show ¬ 59 = 8 by decide), hS] at hv2 ⊢
    refine ⟨by rw [x_up_s, if_pos hP.1, if_pos hP.2], fun _ => ?_, hh.rd _ _⟩
    have hi : x_c a < nC := (x_ix hP.1.1 hP.1.2 hh.K.C (by have := hh.K.C0; omega)).2
    have hb : x_c b ≤ 11 := (x_ixle hP.2.1 hP.2.2 (N := 11) rfl (by decide)).2
    rw [x_t8, hr, hv2 hP.1 hP.2, (hh.C.o _ _ hi (by omega)).1]
  · replace hσ := hσ.symm; subst hσ
    refine ⟨x_M7.rf σ, fun r' v hv => ?_⟩
    obtain ⟨rfl, hv2⟩ := hv
    rw [hS]
    refine ⟨?_, fun q => absurd q (by decide), hh.rd0 _⟩
    rw [x_up_s]
    by_cases q : 0 ≤ a ∧ a < σ 6 0 6
    · rw [if_pos q, if_neg (fun w => hP ⟨q, w⟩)]
    · rw [if_neg q]
theorem sp_sent {ad : Nat → Nat → Nat} {nS nB nC nO N : Nat} {σ : x_St} {a : Int32} {kk : Int32} {u : x_St} (hh : Rl σ nS nB nC nO N) (hq : q_L_sent ad nS nB nC nO σ a kk u) : x_M7 σ u ∧ ∀ (r : Int32) (v : x_St), q_X7_sent u a r v → v 7 0 0 = kk ∧ (kk = 0 → v 8 0 0 = r) ∧ Rl v nS nB nC nO (N + 1) := by
  have hS : σ 7 0 4 = σ 6 0 8 := hh.K.O7.trans hh.K.O.symm
  rcases hq with ⟨rfl, r, σ', ⟨hσ, hP, hr⟩, rfl⟩ | ⟨rfl, ⟨_, hP⟩, hσ⟩
  · replace hσ := hσ.symm; subst hσ
    refine ⟨(x_M7.rf σ).o r, fun r' v hv => ?_⟩
    obtain ⟨rfl, hv2⟩ := hv
    simp only [x_o8 (show ¬ 7 = 8 by decide), x_o8 (show ¬ 67 = 8 by decide), hS] at hv2 ⊢
    refine ⟨by rw [x_up_s, if_pos hP], fun _ => ?_, hh.rd _ _⟩
    have hi : x_c a < nO := (x_ix hP.1 hP.2 hh.K.O (by have := hh.K.O0; omega)).2
    rw [x_t8, hr, hv2 hP, show σ 67 0 (x_c a) = σ 4 (x_c a) 7 from hh.O.e _ 7 hi (by decide)]
  · replace hσ := hσ.symm; subst hσ
    refine ⟨x_M7.rf σ, fun r' v hv => ?_⟩
    obtain ⟨rfl, hv2⟩ := hv
    rw [hS]
    exact ⟨by rw [x_up_s, if_neg hP], fun q => absurd q (by decide), hh.rd0 _⟩
theorem sp_count {ad : Nat → Nat → Nat} {nS nB nC nO N : Nat} {σ : x_St} {a : Int32} {kk : Int32} {u : x_St} (hh : Rl σ nS nB nC nO N) (hq : q_L_count ad nS nB nC nO σ a kk u) : x_M7 σ u ∧ ∀ (r : Int32) (v : x_St), q_X7_count u a nB r v → v 7 0 0 = kk ∧ (kk = 0 → v 8 0 0 = r) ∧ Rl v nS nB nC nO (N + 1) := by
  rcases hq with ⟨rfl, r, σ', ⟨hσ, hP, hr⟩, rfl⟩ | ⟨rfl, ⟨_, hP⟩, hσ⟩
  · replace hσ := hσ.symm; subst hσ
    refine ⟨(x_M7.rf σ).o r, fun r' v hv => ?_⟩
    obtain ⟨rfl, hv2⟩ := hv
    simp only [x_o8 (show ¬ 7 = 8 by decide)] at hv2
    have ec : ∀ z, m_cnt (x_up σ 8 0 0 r) z nB = m_cnt σ z nB := fun z => m_cnt_cong nB (fun _ _ => x_o8 (by decide))
    rw [ec, ec] at hv2
    refine ⟨by rw [x_up_s, if_pos hP], fun _ => ?_, hh.rd _ _⟩
    have e5 : σ 6 0 6 * 12 = nI (m_cnt σ 4 nB) := by rw [hh.K.C, hh.B.k4, show (12 : Int32) = nI 12 from rfl, pk_mul, Nat.mul_comm]
    rw [x_t8, hr, hv2 hP, hh.K.S7, hh.K.B7, hh.K.C7, hh.K.O7, hh.K.P, hh.K.S, hh.K.B, hh.K.O, hh.B.k3, e5, hh.K.C]
  · replace hσ := hσ.symm; subst hσ
    refine ⟨x_M7.rf σ, fun r' v hv => ?_⟩
    obtain ⟨rfl, hv2⟩ := hv
    exact ⟨by rw [x_up_s, if_neg hP], fun q => absurd q (by decide), hh.rd0 _⟩
