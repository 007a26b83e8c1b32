/-- the machines' numbers alone have changed -/
theorem Rl.mM {σ σ' : x_St} {nS nB nC nO N : Nat} (h : Rl σ nS nB nC nO N) (hk : ∀ a b d, ¬ (a = 8 ∨ a = 3 ∨ (51 ≤ a ∧ a ≤ 54)) → ¬ (a = 7 ∧ d = 0) → σ' a b d = σ a b d) (hM : RM σ') : Rl σ' nS nB nC nO (N + 1) :=
  ⟨h.K.mv (fun d _ => hk 6 0 d (by omega) (by omega)) (fun d _ => hk 7 0 d (by omega) (by omega)), h.S.up.mv (fun a b d _ => hk a b d (by omega) (by omega)), h.B.mv (fun a b d _ => hk a b d (by omega) (by omega)) (hk 6 0 12 (by omega) (by omega)), hM, h.C.mv (fun a b d _ => hk a b d (by omega) (by omega)), h.O.mv (fun a b d _ => hk a b d (by omega) (by omega))⟩
theorem RM.up1 {σ : x_St} (h : RM σ) (j q : Nat) (x r t : Int32) (hq : q < 4) : RM (x_up (x_up (x_up (x_up σ 3 j q x) 8 0 0 r) (51 + q) 0 j x) 7 0 0 t) := by
  intro j' q' hj' hq'
  rw [x_up_n (by omega), x_up_n (b := j') (by omega)]
  by_cases e : j' = j ∧ q' = q
  · obtain ⟨rfl, rfl⟩ := e
    rw [x_up_s, x_up_n (by omega), x_up_n (by omega), x_up_s]
  · rw [x_up_n (by omega), x_up_n (by omega), x_up_n (by omega), x_up_n (by omega), x_up_n (by omega), x_up_n (by omega)]
    exact h j' q' hj' hq'
theorem sp_stands {ad : Nat → Nat → Nat} {nS nB nC nO N : Nat} {σ : x_St} {a b : Int32} {kk : Int32} {u : x_St} (hh : Rl σ nS nB nC nO N) (hq : q_L_stands ad nS nB nC nO σ a b kk u) : x_M7 σ u ∧ ∀ (r : Int32) (v : x_St), q_X7_stands u a b r v → v 7 0 0 = kk ∧ (kk = 0 → v 8 0 0 = r) ∧ Rl v nS nB nC nO (N + 1) := by
  rcases hq with ⟨rfl, r, σ', ⟨rfl, hP, hr⟩, rfl⟩ | ⟨rfl, hP, hσ⟩ | ⟨rfl, hP, hσ⟩
  · refine ⟨fun a' b' d' q => by rw [x_up_n (by omega), x_up_n (by omega)], fun r' v hv => ?_⟩
    obtain ⟨rfl, hv2⟩ := hv
    have hi : x_c a ≤ 5 := (x_ixle hP.1.1 hP.1.2 (N := 5) rfl (by decide)).2
    rw [if_pos hP, if_pos hP.1, if_pos hP.2]
    refine ⟨x_up_s, fun _ => ?_, hh.mM (fun a' b' d' q1 q2 => ?_) (RM.up1 hh.M _ 1 _ _ _ (by decide))⟩
    · rw [x_up_n (by simp), x_up_n (by simp), x_up_s, hr, hv2 hP.1 hP.2, x_up_n (by simp), x_up_n (by simp)]
      exact (hh.M _ 1 (by omega) (by decide)).symm
    · rw [x_up_n (by omega), x_up_n (by omega), x_up_n (by omega), x_up_n (by omega)]
  · replace hσ := hσ.symm; subst hσ
    refine ⟨x_M7.rf σ, fun r' v hv => ?_⟩
    obtain ⟨rfl, hv2⟩ := hv
    have hn : ¬ (0 ≤ a ∧ a ≤ 5) := by
      rcases hP with ⟨_, q⟩ | ⟨q, _⟩
      · exact q
      · exact absurd q (by decide)
    rw [if_neg (fun q => hn q.1), if_neg hn]
    exact ⟨x_up_s, fun q => absurd q (by decide), hh.rd0 _⟩
  · replace hσ := hσ.symm; subst hσ
    refine ⟨x_M7.rf σ, fun r' v hv => ?_⟩
    obtain ⟨rfl, hv2⟩ := hv
    have hn : (0 ≤ a ∧ a ≤ 5) ∧ ¬ (1 ≤ b ∧ b ≤ 10000) := by
      rcases hP with ⟨q, _⟩ | ⟨_, q⟩
      · exact absurd q (by decide)
      · exact q
    rw [if_neg (fun q => hn.2 q.2), if_pos hn.1, if_neg hn.2]
    exact ⟨x_up_s, fun q => absurd q (by decide), hh.rd0 _⟩
theorem sp_grind {ad : Nat → Nat → Nat} {nS nB nC nO N : Nat} {σ : x_St} {a : Int32} {kk : Int32} {u : x_St} (hh : Rl σ nS nB nC nO N) (hq : q_L_grind ad nS nB nC nO σ a kk u) : x_M7 σ u ∧ ∀ (r : Int32) (v : x_St), q_X7_grind u a r v → v 7 0 0 = kk ∧ (kk = 0 → v 8 0 0 = r) ∧ Rl v nS nB nC nO (N + 1) := by
  rcases hq with ⟨rfl, r, σ', ⟨rfl, hP, hr⟩, rfl⟩ | ⟨rfl, ⟨_, hP⟩, hσ⟩
  · refine ⟨fun a' b' d' q => by rw [x_up_n (by omega), x_up_n (by omega)], fun r' v hv => ?_⟩
    obtain ⟨rfl, hv2⟩ := hv
    have hi : x_c a ≤ 5 := (x_ixle hP.1 hP.2 (N := 5) rfl (by decide)).2
    rw [if_pos hP, if_pos hP]
    refine ⟨x_up_s, fun _ => ?_, hh.mM (fun a' b' d' q1 q2 => ?_) (RM.up1 hh.M _ 0 _ _ _ (by decide))⟩
    · rw [x_up_n (by simp), x_up_n (by simp), x_up_s, hr, hv2 hP, x_up_n (by simp), x_up_n (by simp)]
      exact (hh.M _ 0 (by omega) (by decide)).symm
    · rw [x_up_n (by omega), x_up_n (by omega), x_up_n (by omega), x_up_n (by omega)]
  · replace hσ := hσ.symm; subst hσ
    refine ⟨x_M7.rf σ, fun r' v hv => ?_⟩
    obtain ⟨rfl, hv2⟩ := hv
    rw [if_neg hP, if_neg hP]
    exact ⟨x_up_s, fun q => absurd q (by decide), hh.rd0 _⟩
theorem sp_list {ad : Nat → Nat → Nat} {nS nB nC nO N : Nat} {σ : x_St} {a b d : Int32} {kk : Int32} {u : x_St} (hh : Rl σ nS nB nC nO N) (hN : N < 2 ^ 30) (hq : q_L_list ad nS nB nC nO σ a b d kk u) : x_M7 σ u ∧ ∀ (r : Int32) (v : x_St), q_X7_list u a b d r v → v 7 0 0 = kk ∧ (kk = 0 → v 8 0 0 = r) ∧ Rl v nS nB nC nO (N + 1) := by
  rcases hq with ⟨rfl, r, σ', ⟨hP, hr, hσ'⟩, rfl⟩ | ⟨rfl, ⟨_, hP⟩, hσ⟩
  · obtain ⟨ea, ga⟩ := x_ixle (Int32.le_trans (by decide) hP.1) hP.2.1 (N := 3) rfl (by decide)
    obtain ⟨eb, gb⟩ := x_ixle (Int32.le_trans (by decide) hP.2.2.1) hP.2.2.2.1 (N := 9) rfl (by decide)
    obtain ⟨ed, gd⟩ := x_ixle hP.2.2.2.2.1 hP.2.2.2.2.2 (N := 999) rfl (by decide)
    have b1 : 1 ≤ x_c b := by
      have w := hP.2.2.1
      rw [eb] at w
      exact (nI_leI (a := 1) (by decide) (by omega)).mp w
    have hm7 : x_M7 σ σ' := fun a' b' d' q => by
      rw [hσ']
      split
      · rfl
      · rw [x_up_n (by omega), x_up_n (by omega)]
    refine ⟨hm7.o r, fun r' v hv => ?_⟩
    obtain ⟨rfl, hv2⟩ := hv
    rw [if_pos hP, if_pos hP]
    have hw := hh.S.w (10 * x_c a + x_c b) (by omega)
    refine ⟨x_up_s, fun _ => ?_, ?_⟩
    · rw [x_up_n (by simp), x_up_n (by simp), x_up_s, hr, hv2 hP, x_o8 (by decide), hm7 41 0 _ (by omega), hw]
    · by_cases hs : σ 11 0 (10 * x_c a + x_c b) = d
      · rw [if_pos hs] at hσ'
        subst hσ'
        refine hh.keep (fun a' b' d' q1 q2 => ?_)
        rw [x_up_n (by omega)]
        by_cases e : a' = 41 ∧ b' = 0 ∧ d' = 10 * x_c a + x_c b
        · obtain ⟨rfl, rfl, rfl⟩ := e
          rw [x_up_s, hw, hs]
        · rw [x_up_n e, x_up_n (by omega)]
      · rw [if_neg hs] at hσ'
        subst hσ'
        have hk : ∀ a' b' d', ¬ (a' = 8 ∨ a' = 11 ∨ a' = 2 ∨ a' = 41) → ¬ (a' = 7 ∧ d' = 0) → x_up (x_up (x_up (x_up (x_up σ 11 0 (10 * x_c a + x_c b) d) 2 0 1 (σ 2 0 1 + 1)) 8 0 0 r) 41 0 (10 * x_c a + x_c b) d) 7 0 0 0 a' b' d' = σ a' b' d' := fun a' b' d' q1 q2 => by
          rw [x_up_n (by omega), x_up_n (by omega), x_up_n (by omega), x_up_n (by omega), x_up_n (by omega)]
        have h11 : ∀ d', x_up (x_up (x_up (x_up (x_up σ 11 0 (10 * x_c a + x_c b) d) 2 0 1 (σ 2 0 1 + 1)) 8 0 0 r) 41 0 (10 * x_c a + x_c b) d) 7 0 0 0 11 0 d' = if d' = 10 * x_c a + x_c b then d else σ 11 0 d' := fun d' => by
          rw [x_up_n (by omega), x_up_n (by omega), x_up_n (by omega), x_up_n (by omega), x_up]
          simp
        have h41 : ∀ d', x_up (x_up (x_up (x_up (x_up σ 11 0 (10 * x_c a + x_c b) d) 2 0 1 (σ 2 0 1 + 1)) 8 0 0 r) 41 0 (10 * x_c a + x_c b) d) 7 0 0 0 41 0 d' = if d' = 10 * x_c a + x_c b then d else σ 41 0 d' := fun d' => by
          rw [x_up_n (by omega), x_up]
          split
          · rename_i q; rw [if_pos q.2.2]
          · rename_i q; rw [if_neg (fun w => q ⟨rfl, rfl, w⟩), x_up_n (by omega), x_up_n (by omega), x_up_n (by omega)]
        have h2 : x_up (x_up (x_up (x_up (x_up σ 11 0 (10 * x_c a + x_c b) d) 2 0 1 (σ 2 0 1 + 1)) 8 0 0 r) 41 0 (10 * x_c a + x_c b) d) 7 0 0 0 2 0 1 = σ 2 0 1 + 1 := by
          rw [x_up_n (by omega), x_up_n (by omega), x_up_n (by omega), x_up_s]
        generalize x_up (x_up (x_up (x_up (x_up σ 11 0 (10 * x_c a + x_c b) d) 2 0 1 (σ 2 0 1 + 1)) 8 0 0 r) 41 0 (10 * x_c a + x_c b) d) 7 0 0 0 = v at hk h11 h41 h2 ⊢
        have e5 : ∀ b' d', v 5 b' d' = σ 5 b' d' := fun b' d' => hk 5 b' d' (by omega) (by omega)
        obtain ⟨ql, l1, l2, l3⟩ := hh.S.l
        refine ⟨hh.K.mv (fun d _ => hk 6 0 d (by omega) (by omega)) (fun d _ => hk 7 0 d (by omega) (by omega)), ?_, hh.B.mv (fun a b d _ => hk a b d (by omega) (by omega)) (hk 6 0 12 (by omega) (by omega)), hh.M.mv (fun a b d _ => hk a b d (by omega) (by omega)), hh.C.mv (fun a b d _ => hk a b d (by omega) (by omega)), hh.O.mv (fun a b d _ => hk a b d (by omega) (by omega))⟩
        refine ⟨?_, ?_, ?_, ?_, ?_, ?_, ?_, ?_, ?_, ?_, ?_, ⟨?_, ?_⟩, ?_, ?_⟩
        · intro i hi; rw [e5, hk 36 0 i (by omega) (by omega)]; exact hh.S.e0 i hi
        · intro i hi; rw [e5, hk 37 0 i (by omega) (by omega)]; exact hh.S.e1 i hi
        · intro i hi; rw [e5, hk 38 0 i (by omega) (by omega)]; exact hh.S.e2 i hi
        · intro i hi; rw [e5, hk 40 0 i (by omega) (by omega)]; exact hh.S.e4 i hi
        · intro i hi h2; rw [hk 40 0 i (by omega) (by omega)]; exact hh.S.z4 i hi h2
        · intro i hi; rw [e5]; exact hh.S.i2 i hi
        · intro i hi; rw [e5]; exact hh.S.r i hi
        · intro i hi; rw [e5]; exact hh.S.c i hi
        · intro i y x; rw [e5, e5, hk 15 i _ (by omega) (by omega), hk 39 0 _ (by omega) (by omega)]; exact hh.S.g i y x
        · intro i y x; rw [e5, e5, hk 15 i _ (by omega) (by omega)]; exact hh.S.g0 i y x
        · intro d' hd'; rw [h11, h41, hh.S.w d' hd']
        · intro d' hd'
          rw [h11]
          split
          · exact ⟨x_c d, gd, ed⟩
          · exact hh.S.wk.1 d' hd'
        · intro z z1 z3
          rw [h11, if_neg (by omega)]
          exact hh.S.wk.2 z z1 z3
        · refine ⟨ql + 1, by omega, by rw [h2, l2, nI_1], fun i hi => ?_⟩
          rw [e5]
          rcases l3 i hi with q | ⟨t, t1, t2⟩
          · exact Or.inl q
          · exact Or.inr ⟨t, by omega, t2⟩
        · intro i hi hp
          exfalso
          rw [e5, h2, l2, nI_1] at hp
          rcases l3 i hi with q | ⟨t, t1, t2⟩
          · rw [q] at hp
            have := congrArg Int32.toInt hp
            rw [nI_toInt (by omega)] at this
            simp at this
            omega
          · rw [t2] at hp
            have := (nI_eq (a := t) (b := ql + 1) (by omega) (by omega)).mp hp
            omega
  · replace hσ := hσ.symm; subst hσ
    refine ⟨x_M7.rf σ, fun r' v hv => ?_⟩
    obtain ⟨rfl, hv2⟩ := hv
    rw [if_neg hP, if_neg hP]
    exact ⟨x_up_s, fun q => absurd q (by decide), hh.rd0 _⟩
