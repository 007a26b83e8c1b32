/-- what is told has worth -/
theorem ca_Tpos {lam : Int} {G : Nat → Nat → Int} {C N : Nat} : ∀ (f : Nat) (d : Nat → Nat) (q : Nat), f ≤ N → ¬ ca_T lam G C N f d q = 0 → 0 < G q (ca_T lam G C N f d q)
  | 0, _, _, _, h => absurd rfl h
  | f + 1, d, q, hf, h => by
    rw [ca_T] at h ⊢
    split at h
    · rename_i hq
      rw [if_pos hq]
      obtain ⟨_, hok, _⟩ := ca_z_ok (show 0 < ca_z lam G C N f d by omega)
      have := hok.1
      rw [← hq] at this
      exact this
    · rename_i hq
      rw [if_neg hq]
      exact ca_Tpos f _ q (by omega) h
theorem cu_Tpos {σ : x_St} {i : Nat} (R C p : Nat) (h : ¬ cu_T σ i R C p = 0) : 0 < ca_G σ i R C p (cu_T σ i R C p) := ca_Tpos _ _ p (Nat.le_refl _) h
/-- after a plan -/
theorem Rl.pp {σ σ' : x_St} {nS nB nC nO N i : Nat} (hh : Rl σ nS nB nC nO N) (hi : i < nS) (h : f_pp σ i σ') : Rl σ' nS nB nC nO N ∧ f_cu σ' i (x_c (σ 5 i 0)) (x_c (σ 5 i 1)) := by
  have hx := fun (a b d : Nat) (h0 : a ≠ 12 ∧ a ≠ 13 ∧ a ≠ 14) (h1 : ¬ (a = 16 ∧ b = i)) (h2 : ¬ (a = 17 ∧ b = i)) (h3 : ¬ (a = 5 ∧ b = i ∧ 7 ≤ d)) => f_pp_x (a := a) (b := b) (d := d) h h0 h1 h2 h3
  rcases h with ⟨h1, rfl⟩ | ⟨h1, hpn⟩
  · exact ⟨hh, hh.S.p i hi h1⟩
  · obtain ⟨hH, hR1⟩ := hh.cbH hi
    have hcu := cu_pn hH hR1 hpn
    obtain ⟨τ, t1, t2, hσ'⟩ := hpn
    have e5 : ∀ j d, d < 7 → σ' 5 j d = σ 5 j d := fun j d hd => hx 5 j d (by omega) (by omega) (by omega) (by omega)
    have e59 : σ' 5 i 9 = σ 2 0 1 := by rw [hσ']; exact x_up_s
    have e2 : σ' 2 0 1 = σ 2 0 1 := hx 2 0 1 (by omega) (by omega) (by omega) (by omega)
    have ek : ∀ a b d, ¬ (a = 5 ∨ (12 ≤ a ∧ a ≤ 14) ∨ a = 16 ∨ a = 17) → σ' a b d = σ a b d := fun a b d q => hx a b d (by omega) (by omega) (by omega) (by omega)
    refine ⟨⟨hh.K.mv (fun d _ => ek 6 0 d (by omega)) (fun d _ => ek 7 0 d (by omega)), ?_, hh.B.mv (fun a b d _ => ek a b d (by omega)) (ek 6 0 12 (by omega)), hh.M.mv (fun a b d _ => ek a b d (by omega)), hh.C.mv (fun a b d _ => ek a b d (by omega)), hh.O.mv (fun a b d _ => ek a b d (by omega))⟩, hcu⟩
    obtain ⟨ql, l1, l2, l3⟩ := hh.S.l
    refine ⟨?_, ?_, ?_, ?_, ?_, ?_, ?_, ?_, ?_, ?_, ?_, ⟨?_, ?_⟩, ?_, ?_⟩
    · intro j hj; rw [e5 j 0 (by omega), ek 36 0 j (by omega)]; exact hh.S.e0 j hj
    · intro j hj; rw [e5 j 1 (by omega), ek 37 0 j (by omega)]; exact hh.S.e1 j hj
    · intro j hj; rw [e5 j 2 (by omega), ek 38 0 j (by omega)]; exact hh.S.e2 j hj
    · intro j hj; rw [e5 j 4 (by omega), ek 40 0 j (by omega)]; exact hh.S.e4 j hj
    · intro j hj h2; rw [ek 40 0 j (by omega)]; exact hh.S.z4 j hj h2
    · intro j hj; rw [e5 j 2 (by omega)]; exact hh.S.i2 j hj
    · intro j hj; rw [e5 j 0 (by omega)]; exact hh.S.r j hj
    · intro j hj; rw [e5 j 1 (by omega)]; exact hh.S.c j hj
    · intro j y x; rw [e5 j 0 (by omega), e5 j 1 (by omega), ek 15 j _ (by omega), ek 39 0 _ (by omega)]; exact hh.S.g j y x
    · intro j y x; rw [e5 j 0 (by omega), e5 j 1 (by omega), ek 15 j _ (by omega)]; exact hh.S.g0 j y x
    · intro d hd; rw [ek 11 0 d (by omega), ek 41 0 d (by omega)]; exact hh.S.w d hd
    · intro d hd; rw [ek 11 0 d (by omega)]; exact hh.S.wk.1 d hd
    · intro z z1 z3; rw [ek 11 0 _ (by omega)]; exact hh.S.wk.2 z z1 z3
    · refine ⟨ql, l1, e2.trans l2, fun j hj => ?_⟩
      by_cases q : j = i
      · subst q; exact Or.inr ⟨ql, Nat.le_refl _, e59.trans l2⟩
      · rw [hx 5 j 9 (by omega) (by omega) (by omega) (by omega)]; exact l3 j hj
    · intro j hj hp
      rw [e5 j 0 (by omega), e5 j 1 (by omega)]
      by_cases q : j = i
      · subst q; exact hcu
      · rw [hx 5 j 9 (by omega) (by omega) (by omega) (by omega), e2] at hp
        exact f_cu_cong (fun b d => ek 39 b d (by omega)) (fun b d => ek 41 b d (by omega)) (fun d => hx 16 j d (by omega) (by omega) (by omega) (by omega)) (fun d => hx 17 j d (by omega) (by omega) (by omega) (by omega)) (hx 5 j 7 (by omega) (by omega) (by omega) (by omega)) (hx 5 j 8 (by omega) (by omega) (by omega) (by omega)) (hh.S.p j hj hp)
/-- what the reference finds beside a shell's cut -/
theorem Rl.fd {σ σ' w σ1 : x_St} {nS nB nC nO N i : Nat} (hh : Rl σ nS nB nC nO N) (hi : i < nS) (h : f_pp σ i σ') (hw : ∀ a b d, a = 36 ∨ a = 37 ∨ a = 39 ∨ a = 41 → w a b d = σ' a b d) :
    (∀ p, p < x_c (σ 5 i 0) * x_c (σ 5 i 1) → m_fd w i σ1 69 0 p = σ' 16 i p ∧ ∃ z, z ≤ 3 ∧ σ' 16 i p = nI z ∧ (¬ z = 0 → σ' 17 i p = m_th (m_G w i (x_c (σ 5 i 1))) (x_c (σ 5 i 0)) (x_c (σ 5 i 1)) p z ∧ ∃ t, 1 ≤ t ∧ t ≤ 9 ∧ σ' 17 i p = nI t)) ∧ m_fd w i σ1 7 0 41 = σ' 5 i 7 ∧ m_fd w i σ1 7 0 40 = σ' 5 i 8 := by
  obtain ⟨hR', hcu⟩ := hh.pp hi h
  obtain ⟨hH, _⟩ := hR'.cbH hi
  have e50 : σ' 5 i 0 = σ 5 i 0 := f_pp_5 h (by decide)
  have e51 : σ' 5 i 1 = σ 5 i 1 := f_pp_5 h (by decide)
  rw [e50, e51] at hH
  obtain ⟨g1, g2, g3⟩ := cu_G_cong (σ' := w) (σ := σ') (i := i) (R := x_c (σ 5 i 0)) (C := x_c (σ 5 i 1)) (fun b d => hw 39 b d (by omega)) (fun b d => hw 41 b d (by omega))
  have hHw : ca_H w i (x_c (σ 5 i 0)) (x_c (σ 5 i 1)) := by
    obtain ⟨a1, a2, a3, a4, a5, a6⟩ := hH.ca
    exact ⟨a1, a2, a3, by rw [g1]; exact a4, fun d hd => by rw [hw 41 0 d (by omega)]; exact a5 d hd, fun z z1 z3 => by rw [hw 41 0 _ (by omega)]; exact a6 z z1 z3⟩
  have gT : cu_T w i (x_c (σ 5 i 0)) (x_c (σ 5 i 1)) = cu_T σ' i (x_c (σ 5 i 0)) (x_c (σ 5 i 1)) := by unfold cu_T; rw [g2]
  obtain ⟨f1, f2, f3⟩ := cu_fd (σ1 := σ1) hHw (by rw [hw 36 0 i (by omega), hR'.S.e0 i hi, e50]) (by rw [hw 37 0 i (by omega), hR'.S.e1 i hi, e51])
  obtain ⟨c1, c2, c3, c4⟩ := hcu
  refine ⟨fun p hp => ⟨by rw [f1 p hp, gT, c1 p hp], cu_T σ' i (x_c (σ 5 i 0)) (x_c (σ 5 i 1)) p, cu_le _ _ _, c1 p hp, fun h0 => ⟨by rw [g1]; exact c2 p hp h0, ?_⟩⟩, by rw [f2, gT, g3, c3], by rw [f3, gT, c4]⟩
  rw [c2 p hp h0]
  have hz3 : cu_T σ' i (x_c (σ 5 i 0)) (x_c (σ 5 i 1)) p ≤ 3 := cu_le _ _ _
  obtain ⟨t, t9, et, _, _, _, t0⟩ := ca_Gv hH.ca (p := p) (show 1 ≤ cu_T σ' i (x_c (σ 5 i 0)) (x_c (σ 5 i 1)) p by omega) hz3
  refine ⟨t, ?_, t9, et⟩
  rcases Nat.eq_zero_or_pos t with q | q
  · exfalso
    have hg := t0 q
    have hpos : 0 < ca_G σ' i (x_c (σ 5 i 0)) (x_c (σ 5 i 1)) p (cu_T σ' i (x_c (σ 5 i 0)) (x_c (σ 5 i 1)) p) := cu_Tpos _ _ p h0
    omega
  · exact q
/-- the reference's cut-finding leaves what binds -/
theorem m_fd_kp {w σ1 : x_St} {i : Nat} (h1 : ∀ x y d, x ≠ 68 → σ1 x y d = w x y d) {a b d : Nat} (q1 : ¬ (a = 68 ∨ a = 69)) (q2 : ¬ (a = 7 ∧ (d = 40 ∨ d = 41))) : m_fd w i σ1 a b d = w a b d := by
  rw [m_fd_keep rfl a b d (by omega) q2, x_up_n (by omega), x_up_n (by omega)]
  exact h1 a b d (by omega)
theorem sp_best {ad : Nat → Nat → Nat} {nS nB nC nO N : Nat} {σ : x_St} {a b : Int32} {kk : Int32} {u : x_St} (hh : Rl σ nS nB nC nO N) (hq : q_L_best ad nS nB nC nO σ a b kk u) : x_M7 σ u ∧ ∀ (r : Int32) (v : x_St), q_X7_best u a b r v → v 7 0 0 = kk ∧ (kk = 0 → v 8 0 0 = r) ∧ Rl v nS nB nC nO (N + 1) := by
  have hS : σ 7 0 1 = σ 6 0 1 := hh.K.S7.trans hh.K.S.symm
  rcases hq with ⟨rfl, r, σ', ⟨hP, hpp, hr⟩, rfl⟩ | ⟨rfl, ⟨_, hP⟩, hσ⟩
  · have hi : x_c a < nS := (x_ix hP.1.1 hP.1.2 hh.K.S (by have := hh.K.S0; omega)).2
    obtain ⟨hR', _⟩ := hh.pp hi hpp
    have hm7 : x_M7 σ σ' := fun a' b' d' q => f_pp_k hpp (by omega)
    refine ⟨hm7.o r, fun r' v hv => ?_⟩
    obtain ⟨hv1, -⟩ := hv
    rw [x_o8 (by decide), hm7 7 0 1 (by omega), hS] at hv1
    have hb : b = 0 ∨ b = 1 := by
      obtain ⟨eb, gb⟩ := x_ixle hP.2.1 hP.2.2 (N := 1) rfl (by decide)
      rcases (show x_c b = 0 ∨ x_c b = 1 by omega) with q | q <;> rw [q] at eb
      · exact Or.inl eb
      · exact Or.inr eb
    obtain ⟨⟨σ1, hσ1, rfl⟩, e1⟩ := hv1 ⟨hP.1, hb⟩
    obtain ⟨_, f2, f3⟩ := hh.fd (w := x_up (x_up σ' 8 0 0 r) 7 0 0 0) (σ1 := σ1) hi hpp (fun a' b' d' q => by rw [x_up_n (by omega), x_up_n (by omega)])
    refine ⟨by rw [m_fd_kp hσ1 (by omega) (by omega), x_up_s], fun _ => ?_, hR'.keep (fun a' b' d' q1 q2 => by rw [m_fd_kp hσ1 (by omega) (by omega), x_up_n (by omega), x_up_n (by omega)])⟩
    rw [m_fd_kp hσ1 (by omega) (by omega), x_t8, hr, e1, f2, f3]
  · replace hσ := hσ.symm; subst hσ
    refine ⟨x_M7.rf σ, fun r' v hv => ?_⟩
    obtain ⟨-, hv2⟩ := hv
    rw [hS] at hv2
    have hn : ¬ ((0 ≤ a ∧ a < σ 6 0 1) ∧ (b = 0 ∨ b = 1)) := fun q => hP ⟨q.1, by rcases q.2 with rfl | rfl <;> decide⟩
    rw [hv2 hn]
    exact ⟨x_up_s, fun q => absurd q (by decide), hh.rd0 _⟩
theorem sp_bestAt {ad : Nat → Nat → Nat} {nS nB nC nO N : Nat} {σ : x_St} {a b : Int32} {kk : Int32} {u : x_St} (hh : Rl σ nS nB nC nO N) (hq : q_L_bestAt ad nS nB nC nO σ a b kk u) : x_M7 σ u ∧ ∀ (r : Int32) (v : x_St), q_X7_bestAt u a b r v → v 7 0 0 = kk ∧ (kk = 0 → v 8 0 0 = r) ∧ Rl v nS nB nC nO (N + 1) := by
  have hS : σ 7 0 1 = σ 6 0 1 := hh.K.S7.trans hh.K.S.symm
  rcases hq with ⟨rfl, r, σ', ⟨hP, hpp, hr⟩, rfl⟩ | ⟨rfl, ⟨_, hP⟩, hσ⟩
  · have hi : x_c a < nS := (x_ix hP.1.1 hP.1.2 hh.K.S (by have := hh.K.S0; omega)).2
    obtain ⟨hR', _⟩ := hh.pp hi hpp
    have hm7 : x_M7 σ σ' := fun a' b' d' q => f_pp_k hpp (by omega)
    refine ⟨hm7.o r, fun r' v hv => ?_⟩
    obtain ⟨hv1, -⟩ := hv
    rw [x_o8 (by decide), hm7 7 0 1 (by omega), hS, x_o8 (by decide), x_o8 (by decide), hm7 36 0 _ (by omega), hm7 37 0 _ (by omega), hh.S.e0 _ hi, hh.S.e1 _ hi] at hv1
    obtain ⟨⟨σ1, hσ1, rfl⟩, e1⟩ := hv1 ⟨hP.1, hP.2⟩
    have hb : x_c b < x_c (σ 5 (x_c a) 0) * x_c (σ 5 (x_c a) 1) := (x_ix hP.2.1 hP.2.2 (f_sk_rc (hh.sk _ hi)) (by have := f_sk_36 (hh.sk _ hi); omega)).2
    obtain ⟨f1, _, _⟩ := hh.fd (w := x_up (x_up σ' 8 0 0 r) 7 0 0 0) (σ1 := σ1) hi hpp (fun a' b' d' q => by rw [x_up_n (by omega), x_up_n (by omega)])
    refine ⟨by rw [m_fd_kp hσ1 (by omega) (by omega), x_up_s], fun _ => ?_, hR'.keep (fun a' b' d' q1 q2 => by rw [m_fd_kp hσ1 (by omega) (by omega), x_up_n (by omega), x_up_n (by omega)])⟩
    rw [m_fd_kp hσ1 (by omega) (by omega), x_t8, hr, e1, (f1 _ hb).1]
  · replace hσ := hσ.symm; subst hσ
    refine ⟨x_M7.rf σ, fun r' v hv => ?_⟩
    obtain ⟨-, hv2⟩ := hv
    rw [hS] at hv2
    have hn : ¬ ((0 ≤ a ∧ a < σ 6 0 1) ∧ (0 ≤ b ∧ b < σ 36 0 (x_c a) * σ 37 0 (x_c a))) := fun q => hP ⟨q.1, by
      have hi : x_c a < nS := (x_ix q.1.1 q.1.2 hh.K.S (by have := hh.K.S0; omega)).2
      rw [← hh.S.e0 _ hi, ← hh.S.e1 _ hi]; exact q.2⟩
    rw [hv2 hn]
    exact ⟨x_up_s, fun q => absurd q (by decide), hh.rd0 _⟩
