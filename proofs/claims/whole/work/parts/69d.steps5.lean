theorem f_X0_k {α : x_St} {m : Nat} {x1 x2 x3 x4 x5 y : Int32} {a b d : Nat} (q : ¬ (a = 0 ∧ b = m)) (q2 : ¬ (a = 6 ∧ d = 3)) : x_up (f_X0_init (x_zr α 0 m) m x1 x2 x3 x4 x5) 6 0 3 y a b d = α a b d := by
  rw [x_up_n (by omega), f_X0_init, x_up_n (by omega), x_up_n (by omega), x_up_n (by omega), x_up_n (by omega), x_up_n (by omega), x_up_n (by omega), x_up_n (by omega), x_up_n (by omega), x_up_n (by omega), x_zr, if_neg q]
theorem f_tb_k {i : Nat} {num : Int32} : ∀ (f p m : Nat) (α : x_St) (a b d : Nat), ¬ a = 0 → ¬ (a = 6 ∧ d = 3) → (f_tb i num f p m α).2 a b d = α a b d
  | 0, _, _, _, _, _, _, _, _ => rfl
  | f + 1, p, m, α, a, b, d, q1, q2 => by
    rw [f_tb]
    split
    · rw [f_tb_k f _ _ _ a b d q1 q2, f_X0_k (by omega) q2]
    · exact f_tb_k f _ _ _ a b d q1 q2
theorem m_fl_x {a : Int32} {i R C pl m k b d : Nat} {σ : x_St} (h : ¬ (42 ≤ k ∧ k ≤ 50 ∧ d = m)) (h2 : ¬ (k = 7 ∧ d = 2)) : m_fl a i R C pl m σ k b d = σ k b d := by
  unfold m_fl
  rw [x_up_n (by omega), x_up_n (by omega), x_up_n (by omega), x_up_n (by omega), x_up_n (by omega), x_up_n (by omega), x_up_n (by omega), x_up_n (by omega), x_up_n (by omega), x_up_n (by omega)]
theorem m_cu_k {num : Int32} {i R C : Nat} : ∀ (f p m : Nat) (β : x_St) (a b d : Nat), ¬ (42 ≤ a ∧ a ≤ 50 ∧ m ≤ d) → ¬ (a = 7 ∧ d = 2) → m_cu num i R C f p m β a b d = β a b d
  | 0, _, _, _, _, _, _, _, _ => rfl
  | f + 1, p, m, β, a, b, d, q1, q2 => by
    rw [m_cu]
    split
    · exact m_cu_k f _ _ _ a b d q1 q2
    · rw [m_cu_k f _ _ _ a b d (by omega) q2, m_fl_x (by omega) q2]
theorem m_cf_cong {τ τ' : x_St} : ∀ (f p : Nat), (∀ q, τ' 69 0 q = τ 69 0 q) → m_cf τ' f p = m_cf τ f p
  | 0, _, _ => rfl
  | f + 1, p, h => by rw [m_cf, m_cf, h p, m_cf_cong f (p + 1) h]
/-- what stands at the places from p on, on both sides -/
def RT (α β : x_St) (i R C p e : Nat) : Prop := (∀ q, p ≤ q → q < e → ∃ z, z ≤ 3 ∧ α 16 i q = nI z ∧ β 69 0 q = nI z ∧ (¬ z = 0 → α 17 i q = m_th (m_G β i C) R C q z ∧ ∃ t, 1 ≤ t ∧ t ≤ 9 ∧ α 17 i q = nI t)) ∧ β 38 0 i = α 5 i 2 ∧ ∃ t, t ≤ 9 ∧ α 5 i 2 = nI t
theorem RT.mv {α β α' β' : x_St} {i R C p e : Nat} (h : RT α β i R C p e) (ha : ∀ a b d, a = 16 ∨ a = 17 ∨ a = 5 → α' a b d = α a b d) (hb : ∀ a b d, a = 69 ∨ a = 38 ∨ a = 39 → β' a b d = β a b d) : RT α' β' i R C (p + 1) e := by
  have eG : m_G β' i C = m_G β i C := by funext y x; exact hb 39 0 _ (by omega)
  obtain ⟨h1, h2, h3⟩ := h
  refine ⟨fun q q1 q2 => ?_, by rw [hb 38 0 i (by omega), ha 5 i 2 (by omega)]; exact h2, by rw [ha 5 i 2 (by omega)]; exact h3⟩
  rw [ha 16 i q (by omega), ha 17 i q (by omega), hb 69 0 q (by omega), eG]
  exact h1 q (by omega) q2
theorem RW.tb {i R C n4 : Nat} {num : Int32} : ∀ (f p m : Nat) (α β : x_St), RW α β m n4 → RT α β i R C p (p + f) → m + m_cf β f p ≤ 400 → α 6 0 3 = nI m → β 7 0 2 = nI m →
    RW (f_tb i num f p m α).2 (m_cu num i R C f p m β) (f_tb i num f p m α).1 n4 ∧ m ≤ (f_tb i num f p m α).1 ∧ (f_tb i num f p m α).1 ≤ 400 ∧ (f_tb i num f p m α).2 6 0 3 = nI (f_tb i num f p m α).1 ∧ m_cu num i R C f p m β 7 0 2 = nI (f_tb i num f p m α).1
  | 0, p, m, α, β, hw, _, hm, h6, h7 => ⟨hw, Nat.le_refl _, by rw [m_cf] at hm; exact hm, h6, h7⟩
  | f + 1, p, m, α, β, hw, ht, hm, h6, h7 => by
    obtain ⟨z, z3, e16, e69, hz⟩ := ht.1 p (Nat.le_refl _) (by omega)
    rw [m_cf] at hm
    rw [f_tb, m_cu]
    have hle : α 16 i p ≤ 0 ↔ z = 0 := by
      rw [e16]
      exact ⟨fun q => x_z0 rfl (by omega) q, fun q => by rw [q]; decide⟩
    have h0 : β 69 0 p = 0 ↔ z = 0 := by
      rw [e69]
      exact ⟨fun q => (nI_eq (a := z) (b := 0) (by omega) (by decide)).mp q, fun q => by rw [q]; rfl⟩
    by_cases q : z = 0
    · rw [if_pos (h0.mpr q), if_neg (fun w => w.1 (hle.mpr q))]
      rw [if_pos (h0.mpr q)] at hm
      exact RW.tb f (p + 1) m α β hw (by have := ht.mv (α' := α) (β' := β) (fun _ _ _ _ => rfl) (fun _ _ _ _ => rfl); rw [show p + (f + 1) = p + 1 + f by omega] at this; exact this) (by omega) h6 h7
    · rw [if_neg (fun w => q (h0.mp w)), if_pos ⟨fun w => q (hle.mp w), by rw [if_neg (fun w => q (h0.mp w))] at hm; omega⟩]
      rw [if_neg (fun w => q (h0.mp w))] at hm
      obtain ⟨eth, t, t1, t9, et⟩ := hz q
      have hcf : m_cf (m_fl num i R C p m β) f (p + 1) = m_cf β f (p + 1) := m_cf_cong f (p + 1) (fun q => m_fl_x (by omega) (by omega))
      have hres := RW.tb (i := i) (R := R) (C := C) (n4 := n4) (num := num) f (p + 1) (m + 1) (x_up (f_X0_init (x_zr α 0 m) m (α 16 i p) (α 17 i p) (α 5 i 2) num (nI p)) 6 0 3 (nI (m + 1))) (m_fl num i R C p m β) ?_ ?_ (by rw [hcf]; omega) x_up_s (by unfold m_fl; exact x_up_s)
      · exact ⟨hres.1, by omega, hres.2.2.1, hres.2.2.2.1, hres.2.2.2.2⟩
      · obtain ⟨e, hz2, t2, ti, hb, k3, k4, mm⟩ := hw
        have hold : ∀ j, j < m → ∀ d, x_up (f_X0_init (x_zr α 0 m) m (α 16 i p) (α 17 i p) (α 5 i 2) num (nI p)) 6 0 3 (nI (m + 1)) 0 j d = α 0 j d := fun j hj d => f_X0_k (by omega) (by omega)
        have hcnt : ∀ v, ¬ (0 : Int32) = v → m_cnt (m_fl num i R C p m β) v (m + 1) = m_cnt β v m := fun v hv => by
          rw [m_cnt, m_cnt_cong m (fun q hq => m_fl_x (by omega) (by omega)), show m_fl num i R C p m β 46 0 m = 0 by simp [m_fl, x_up], if_neg hv, Nat.add_zero]
        obtain ⟨tt, tt9, ett⟩ := ht.2.2
        refine ⟨?_, ?_, ?_, ?_, ?_, ?_, ?_, ?_⟩
        · intro j q' hj hq'
          by_cases hj2 : j = m
          · subst hj2
            have hq9 : q' = 0 ∨ q' = 1 ∨ q' = 2 ∨ q' = 3 ∨ q' = 4 ∨ q' = 5 ∨ q' = 6 ∨ q' = 7 ∨ q' = 8 := by omega
            rcases hq9 with rfl | rfl | rfl | rfl | rfl | rfl | rfl | rfl | rfl
            · simp [m_fl, x_up, f_bf, f_X0_init, e69, e16]
            · simp [m_fl, x_up, f_bf, f_X0_init, e69, eth, x_cn (show z < 2 ^ 31 by omega)]
            · simp [m_fl, x_up, f_bf, f_X0_init, ht.2.1]
            · simp [m_fl, x_up, f_bf, f_X0_init]
            · simp [m_fl, x_up, f_bf, f_X0_init]
            · simp [m_fl, x_up, f_bf, f_X0_init]
            · simp [m_fl, x_up, f_bf, f_X0_init]
            · simp [m_fl, x_up, f_bf, f_X0_init]
            · simp [m_fl, x_up, f_bf, f_X0_init]
          · rw [hold j (by omega), m_fl_x (by omega) (by omega)]
            exact e j q' (by omega) hq'
        · intro j hj
          by_cases hj2 : j = m
          · subst hj2; exact ⟨z, by omega, z3, by simp [f_X0_init, x_up, e16]⟩
          · rw [hold j (by omega)]; exact hz2 j (by omega)
        · intro j hj
          by_cases hj2 : j = m
          · subst hj2; exact ⟨t, t1, t9, by simp [f_X0_init, x_up, et]⟩
          · rw [hold j (by omega)]; exact t2 j (by omega)
        · intro j hj
          by_cases hj2 : j = m
          · subst hj2; exact ⟨tt, tt9, by simp [f_X0_init, x_up, ett]⟩
          · rw [hold j (by omega)]; exact ti j (by omega)
        · intro j hj
          by_cases hj2 : j = m
          · subst hj2; intro _; simp [f_X0_init, x_up]
          · rw [hold j (by omega), hold j (by omega)]; exact hb j (by omega)
        · rw [hcnt 3 (by decide), ← k3]
          exact f_X0_k (by omega) (by omega)
        · rw [hcnt 4 (by decide)]; exact k4
        · intro j q' hj hq'
          rw [f_X0_k (by omega) (by omega), m_fl_x (by omega) (by omega)]
          exact mm j q' hj hq'
      · have := ht.mv (α' := x_up (f_X0_init (x_zr α 0 m) m (α 16 i p) (α 17 i p) (α 5 i 2) num (nI p)) 6 0 3 (nI (m + 1))) (β' := m_fl num i R C p m β) (fun a b d _ => f_X0_k (by omega) (by omega)) (fun a b d _ => m_fl_x (by omega) (by omega))
        rw [show p + (f + 1) = p + 1 + f by omega] at this
        exact this
/-- a shell is cut -/
theorem RS.cut {σ v : x_St} {nS N i : Nat} (h : RS σ nS N) (hi : i < nS) (hk : ∀ a b d, a = 2 ∨ a = 11 ∨ (15 ≤ a ∧ a ≤ 17) ∨ (36 ≤ a ∧ a ≤ 39) ∨ a = 41 → v a b d = σ a b d) (h5 : ∀ b d, v 5 b d = if b = i ∧ d = 4 then 1 else σ 5 b d) (h40 : ∀ d, v 40 0 d = if d = i then 1 else σ 40 0 d) : RS v nS N := by
  have e5 : ∀ b d, ¬ d = 4 → v 5 b d = σ 5 b d := fun b d hd => by rw [h5, if_neg (fun q => hd q.2)]
  have e11 : ∀ b d, v 11 b d = σ 11 b d := fun b d => hk 11 b d (by omega)
  refine ⟨?_, ?_, ?_, ?_, ?_, ?_, ?_, ?_, ?_, ?_, ?_, ⟨?_, ?_⟩, ?_, ?_⟩
  · intro j hj; rw [e5 j 0 (by decide), hk 36 0 j (by omega)]; exact h.e0 j hj
  · intro j hj; rw [e5 j 1 (by decide), hk 37 0 j (by omega)]; exact h.e1 j hj
  · intro j hj; rw [e5 j 2 (by decide), hk 38 0 j (by omega)]; exact h.e2 j hj
  · intro j hj
    rw [h5, h40]
    by_cases q : j = i
    · rw [if_pos q, if_pos ⟨q, rfl⟩]
    · rw [if_neg q, if_neg (fun w => q w.1)]; exact h.e4 j hj
  · intro j hj h2; rw [h40, if_neg (by omega)]; exact h.z4 j hj h2
  · intro j hj; rw [e5 j 2 (by decide)]; exact h.i2 j hj
  · intro j hj; rw [e5 j 0 (by decide)]; exact h.r j hj
  · intro j hj; rw [e5 j 1 (by decide)]; exact h.c j hj
  · intro j y x; rw [e5 j 0 (by decide), e5 j 1 (by decide), hk 15 j _ (by omega), hk 39 0 _ (by omega)]; exact h.g j y x
  · intro j y x; rw [e5 j 0 (by decide), e5 j 1 (by decide), hk 15 j _ (by omega)]; exact h.g0 j y x
  · intro d hd; rw [e11, hk 41 0 d (by omega)]; exact h.w d hd
  · intro d hd; rw [e11]; exact h.wk.1 d hd
  · intro z z1 z3; rw [e11]; exact h.wk.2 z z1 z3
  · rw [hk 2 0 1 (by omega)]
    obtain ⟨q, l1, l2, l3⟩ := h.l
    exact ⟨q, l1, l2, fun j hj => by rw [e5 j 9 (by decide)]; exact l3 j hj⟩
  · intro j hj; rw [e5 j 9 (by decide), e5 j 0 (by decide), e5 j 1 (by decide), hk 2 0 1 (by omega)]
    exact fun q => f_cu_cong (fun b d => hk 39 b d (by omega)) (fun b d => hk 41 b d (by omega)) (fun d => hk 16 j d (by omega)) (fun d => hk 17 j d (by omega)) (e5 j 7 (by decide)) (e5 j 8 (by decide)) (h.p j hj q)
theorem sp_cut {ad : Nat → Nat → Nat} {nS nB nC nO N : Nat} {σ : x_St} {a : Int32} {kk : Int32} {ad' : Nat → Nat → Nat} {m' : Nat} {τ : x_St} (hh : Rl σ nS nB nC nO N) (hq : q_L_cut ad nS nB nC nO σ a kk (ad', m', τ)) : (∀ a b, b < x_n nS nB nC nO a → ad' a b = ad a b) ∧ x_M7 σ τ ∧ ∀ (r : Int32) (v : x_St), q_X7_cut τ a nB r v → v 7 0 0 = kk ∧ (kk = 0 → v 8 0 0 = r) ∧ Rl v nS m' nC nO (N + 1) := by
  have hS : σ 7 0 1 = σ 6 0 1 := hh.K.S7.trans hh.K.S.symm
  have hB0 := hh.K.B0
  rcases hq with ⟨rfl, r, ⟨ad1, m1, σ'⟩, ⟨hag, hP, hc1, hc2⟩, he⟩ | ⟨rfl, ⟨_, hP⟩, he⟩
  · have hi : x_c a < nS := (x_ix hP.1 hP.2 hh.K.S (by have := hh.K.S0; omega)).2
    obtain ⟨rfl, rfl, rfl⟩ : ad' = ad1 ∧ m' = m1 ∧ τ = x_up σ' 8 0 0 r := by
      have := Prod.mk.inj he
      have := Prod.mk.inj this.2
      exact ⟨by simp_all, by simp_all, by simp_all⟩
    dsimp only at hc1 hc2
    by_cases h4 : σ 5 (x_c a) 4 = 0
    · obtain ⟨ρ, hpp, hno, hyes⟩ := hc2 h4
      have e4 : σ 40 0 (x_c a) = 0 := (hh.S.e4 _ hi).trans h4
      obtain ⟨hR', _⟩ := hh.pp hi hpp
      have hρ7 : x_M7 σ ρ := fun a' b' d' q => f_pp_k hpp (by omega)
      have hσ7 : x_M7 σ σ' := by
        by_cases hroom : σ 6 0 3 + ρ 5 (x_c a) 8 ≤ 400
        · obtain ⟨_, _, rfl⟩ := hyes hroom
          exact fun a' b' d' q => by rw [f_tb_k _ _ _ _ _ _ _ (by omega) (by omega), x_up_n (by omega)]; exact hρ7 a' b' d' q
        · obtain ⟨_, _, rfl⟩ := hno hroom
          exact hρ7
      refine ⟨hag, hσ7.o r, fun r' v hv => ?_⟩
      obtain ⟨-, -, hv3⟩ := hv
      have y1 : x_up σ' 8 0 0 r 7 0 1 = σ 6 0 1 := by rw [x_o8 (by decide), hσ7 7 0 1 (by omega), hS]
      have y2 : x_up σ' 8 0 0 r 40 0 (x_c a) = σ 40 0 (x_c a) := by rw [x_o8 (by decide), hσ7 40 0 _ (by omega)]
      have y3 : x_up σ' 8 0 0 r 36 0 (x_c a) = σ 5 (x_c a) 0 := by rw [x_o8 (by decide), hσ7 36 0 _ (by omega), hh.S.e0 _ hi]
      have y4 : x_up σ' 8 0 0 r 37 0 (x_c a) = σ 5 (x_c a) 1 := by rw [x_o8 (by decide), hσ7 37 0 _ (by omega), hh.S.e1 _ hi]
      have y5 : x_up σ' 8 0 0 r 7 0 2 = σ 7 0 2 := by rw [x_o8 (by decide), hσ7 7 0 2 (by omega)]
      rw [y1, y2, y3, y4, y5] at hv3
      obtain ⟨ρm, ⟨σ1, hσ1, rfl⟩, mno, myes⟩ := hv3 hP e4
      have hwk : ∀ a' b' d', a' = 36 ∨ a' = 37 ∨ a' = 39 ∨ a' = 41 → x_up (x_up σ' 8 0 0 r) 7 0 0 0 a' b' d' = ρ a' b' d' := fun a' b' d' q => by
        rw [x_up_n (by omega), x_up_n (by omega), hσ7 a' b' d' (by omega), hρ7 a' b' d' (by omega)]
      obtain ⟨f1, _, f3⟩ := hh.fd (w := x_up (x_up σ' 8 0 0 r) 7 0 0 0) (σ1 := σ1) hi hpp hwk
      have hN36 := f_sk_36 (hh.sk _ hi)
      have e7 : σ 7 0 2 + m_fd (x_up (x_up σ' 8 0 0 r) 7 0 0 0) (x_c a) σ1 7 0 40 = σ 6 0 3 + ρ 5 (x_c a) 8 := by rw [f3, hh.K.B7, hh.K.B]
      by_cases hroom : σ 6 0 3 + ρ 5 (x_c a) 8 ≤ 400
      · obtain ⟨hr, hm1, hσ'⟩ := hyes hroom
        obtain ⟨hr', rfl⟩ := myes (by rw [e7]; exact hroom)
        -- the two sides before the buttons are taken
        have hkβ : ∀ a' b' d', ¬ (a' = 68 ∨ a' = 69 ∨ a' = 8 ∨ a' = 40) → ¬ (a' = 7 ∧ (d' = 0 ∨ d' = 40 ∨ d' = 41)) → x_up (m_fd (x_up (x_up σ' 8 0 0 r) 7 0 0 0) (x_c a) σ1) 40 0 (x_c a) 1 a' b' d' = σ' a' b' d' := fun a' b' d' q1 q2 => by
          rw [x_up_n (by omega), m_fd_kp hσ1 (by omega) (by omega), x_up_n (by omega), x_up_n (by omega)]
        have hcfm : m_fd (x_up (x_up σ' 8 0 0 r) 7 0 0 0) (x_c a) σ1 7 0 40 = nI (m_cf (m_fd (x_up (x_up σ' 8 0 0 r) 7 0 0 0) (x_c a) σ1) (x_c (σ 5 (x_c a) 0) * x_c (σ 5 (x_c a) 1)) 0) :=
          m_fd_cnt rfl (by rw [x_up_n (by omega), x_up_n (by omega), hσ7 36 0 _ (by omega), hh.S.e0 _ hi]) (by rw [x_up_n (by omega), x_up_n (by omega), hσ7 37 0 _ (by omega), hh.S.e1 _ hi])
        have hcle := m_cf_le (m_fd (x_up (x_up σ' 8 0 0 r) 7 0 0 0) (x_c a) σ1) (x_c (σ 5 (x_c a) 0) * x_c (σ 5 (x_c a) 1)) 0
        have hcount : nB + m_cf (m_fd (x_up (x_up σ' 8 0 0 r) 7 0 0 0) (x_c a) σ1) (x_c (σ 5 (x_c a) 0) * x_c (σ 5 (x_c a) 1)) 0 ≤ 400 := by
          have w := hroom
          rw [← e7, hh.K.B7, hcfm, nI_add] at w
          exact (nI_leI (by omega) (by decide)).mp (show nI _ ≤ nI 400 from w)
        have hRW : RW (x_up ρ 5 (x_c a) 4 1) (x_up (m_fd (x_up (x_up σ' 8 0 0 r) 7 0 0 0) (x_c a) σ1) 40 0 (x_c a) 1) nB (12 * nC) := by
          obtain ⟨e, z, t, i, hb, k3, k4, m⟩ := RW.of hh.B hh.M
          have ea : ∀ a' b' d', a' = 0 ∨ a' = 3 ∨ a' = 6 → x_up ρ 5 (x_c a) 4 1 a' b' d' = σ a' b' d' := fun a' b' d' q => by rw [x_up_n (by omega)]; exact f_pp_k hpp (by omega)
          have eb : ∀ a' b' d', 42 ≤ a' ∧ a' ≤ 54 → x_up (m_fd (x_up (x_up σ' 8 0 0 r) 7 0 0 0) (x_c a) σ1) 40 0 (x_c a) 1 a' b' d' = σ a' b' d' := fun a' b' d' q => by rw [hkβ a' b' d' (by omega) (by omega)]; exact hσ7 a' b' d' (by omega)
          have ec : ∀ x, m_cnt (x_up (m_fd (x_up (x_up σ' 8 0 0 r) 7 0 0 0) (x_c a) σ1) 40 0 (x_c a) 1) x nB = m_cnt σ x nB := fun x => m_cnt_cong nB (fun q _ => eb 46 0 q (by omega))
          refine ⟨fun j q hj hq => ?_, fun j hj => ?_, fun j hj => ?_, fun j hj => ?_, fun j hj => ?_, ?_, ?_, fun j q hj hq => ?_⟩
          · rw [ea 0 _ _ (by omega), eb _ _ _ (by omega)]; exact e j q hj hq
          · rw [ea 0 _ _ (by omega)]; exact z j hj
          · rw [ea 0 _ _ (by omega)]; exact t j hj
          · rw [ea 0 _ _ (by omega)]; exact i j hj
          · rw [ea 0 _ _ (by omega), ea 0 _ _ (by omega)]; exact hb j hj
          · rw [ea 6 _ _ (by omega), ec]; exact k3
          · rw [ec]; exact k4
          · rw [ea 3 _ _ (by omega), eb _ _ _ (by omega)]; exact m j q hj hq
        have hRT : RT (x_up ρ 5 (x_c a) 4 1) (x_up (m_fd (x_up (x_up σ' 8 0 0 r) 7 0 0 0) (x_c a) σ1) 40 0 (x_c a) 1) (x_c a) (x_c (σ 5 (x_c a) 0)) (x_c (σ 5 (x_c a) 1)) 0 (0 + x_c (σ 5 (x_c a) 0) * x_c (σ 5 (x_c a) 1)) := by
          have eG : m_G (x_up (m_fd (x_up (x_up σ' 8 0 0 r) 7 0 0 0) (x_c a) σ1) 40 0 (x_c a) 1) (x_c a) (x_c (σ 5 (x_c a) 1)) = m_G (x_up (x_up σ' 8 0 0 r) 7 0 0 0) (x_c a) (x_c (σ 5 (x_c a) 1)) := by
            funext y x
            show x_up (m_fd (x_up (x_up σ' 8 0 0 r) 7 0 0 0) (x_c a) σ1) 40 0 (x_c a) 1 39 0 _ = _
            rw [x_up_n (by omega), m_fd_kp hσ1 (by omega) (by omega)]; rfl
          have e52 : x_up ρ 5 (x_c a) 4 1 5 (x_c a) 2 = σ 5 (x_c a) 2 := by rw [x_up_n (by omega)]; exact f_pp_5 hpp (by decide)
          refine ⟨fun q _ q2 => ?_, ?_, ?_⟩
          · obtain ⟨g1, z, z3, g2, g3⟩ := f1 q (by omega)
            refine ⟨z, z3, by rw [x_up_n (by omega)]; exact g2, by rw [x_up_n (by omega), g1]; exact g2, fun h0 => ?_⟩
            rw [x_up_n (by omega), eG]
            exact g3 h0
          · rw [hkβ 38 0 _ (by omega) (by omega), hσ7 38 0 _ (by omega), e52]; exact hh.S.e2 _ hi
          · rw [e52]; exact hh.S.i2 _ hi
        have hcf2 : m_cf (x_up (m_fd (x_up (x_up σ' 8 0 0 r) 7 0 0 0) (x_c a) σ1) 40 0 (x_c a) 1) (x_c (σ 5 (x_c a) 0) * x_c (σ 5 (x_c a) 1)) 0 = m_cf (m_fd (x_up (x_up σ' 8 0 0 r) 7 0 0 0) (x_c a) σ1) (x_c (σ 5 (x_c a) 0) * x_c (σ 5 (x_c a) 1)) 0 := m_cf_cong _ _ (fun q => x_up_n (by omega))
        obtain ⟨t1, t2, t3, t4, t5⟩ := RW.tb (num := a) (x_c (σ 5 (x_c a) 0) * x_c (σ 5 (x_c a) 1)) 0 nB _ _ hRW hRT (by rw [hcf2]; exact hcount) (by rw [x_up_n (by omega), f_pp_k hpp (by omega)]; exact hh.K.B) (by rw [hkβ 7 0 2 (by omega) (by omega), hσ7 7 0 2 (by omega)]; exact hh.K.B7)
        rw [← hσ', ← hm1] at t1 t4
        rw [← hm1] at t2 t3 t5
        have hvk : ∀ a' b' d', ¬ (42 ≤ a' ∧ a' ≤ 50 ∧ nB ≤ d') → ¬ (a' = 7 ∧ d' = 2) → ¬ (a' = 68 ∨ a' = 69 ∨ a' = 8 ∨ a' = 40) → ¬ (a' = 7 ∧ (d' = 0 ∨ d' = 40 ∨ d' = 41)) → m_cu a (x_c a) (x_c (σ 5 (x_c a) 0)) (x_c (σ 5 (x_c a) 1)) (x_c (σ 5 (x_c a) 0) * x_c (σ 5 (x_c a) 1)) 0 nB (x_up (m_fd (x_up (x_up σ' 8 0 0 r) 7 0 0 0) (x_c a) σ1) 40 0 (x_c a) 1) a' b' d' = σ' a' b' d' := fun a' b' d' q1 q2 q3 q4 => by
          rw [m_cu_k _ _ _ _ _ _ _ q1 q2]; exact hkβ a' b' d' q3 q4
        have hv40 : ∀ d', m_cu a (x_c a) (x_c (σ 5 (x_c a) 0)) (x_c (σ 5 (x_c a) 1)) (x_c (σ 5 (x_c a) 0) * x_c (σ 5 (x_c a) 1)) 0 nB (x_up (m_fd (x_up (x_up σ' 8 0 0 r) 7 0 0 0) (x_c a) σ1) 40 0 (x_c a) 1) 40 0 d' = if d' = x_c a then 1 else σ 40 0 d' := fun d' => by
          rw [m_cu_k _ _ _ _ _ _ _ (by omega) (by omega), x_up]
          by_cases q : d' = x_c a
          · rw [if_pos ⟨rfl, rfl, q⟩, if_pos q]
          · rw [if_neg (fun w => q w.2.2), if_neg q, m_fd_kp hσ1 (by omega) (by omega), x_up_n (by omega), x_up_n (by omega), hσ7 40 0 _ (by omega)]
        have hv700 : m_cu a (x_c a) (x_c (σ 5 (x_c a) 0)) (x_c (σ 5 (x_c a) 1)) (x_c (σ 5 (x_c a) 0) * x_c (σ 5 (x_c a) 1)) 0 nB (x_up (m_fd (x_up (x_up σ' 8 0 0 r) 7 0 0 0) (x_c a) σ1) 40 0 (x_c a) 1) 7 0 0 = 0 := by
          rw [m_cu_k _ _ _ _ _ _ _ (by omega) (by omega), x_up_n (by omega), m_fd_kp hσ1 (by omega) (by omega), x_up_s]
        have hv800 : m_cu a (x_c a) (x_c (σ 5 (x_c a) 0)) (x_c (σ 5 (x_c a) 1)) (x_c (σ 5 (x_c a) 0) * x_c (σ 5 (x_c a) 1)) 0 nB (x_up (m_fd (x_up (x_up σ' 8 0 0 r) 7 0 0 0) (x_c a) σ1) 40 0 (x_c a) 1) 8 0 0 = r := by
          rw [m_cu_k _ _ _ _ _ _ _ (by omega) (by omega), x_up_n (by omega), m_fd_kp hσ1 (by omega) (by omega), x_t8]
        generalize m_cu a (x_c a) (x_c (σ 5 (x_c a) 0)) (x_c (σ 5 (x_c a) 1)) (x_c (σ 5 (x_c a) 0) * x_c (σ 5 (x_c a) 1)) 0 nB (x_up (m_fd (x_up (x_up σ' 8 0 0 r) 7 0 0 0) (x_c a) σ1) 40 0 (x_c a) 1) = v at t1 t5 hvk hv40 hv700 hv800 ⊢
        have hsk : ∀ a' b' d', ¬ a' = 0 → ¬ (a' = 6 ∧ d' = 3) → σ' a' b' d' = x_up ρ 5 (x_c a) 4 1 a' b' d' := fun a' b' d' q1 q2 => by rw [hσ']; exact f_tb_k _ _ _ _ _ _ _ q1 q2
        have hvr : ∀ a' b' d', ¬ a' = 0 → ¬ (a' = 6 ∧ d' = 3) → ¬ (42 ≤ a' ∧ a' ≤ 50 ∧ nB ≤ d') → ¬ (a' = 7 ∧ d' = 2) → ¬ (a' = 68 ∨ a' = 69 ∨ a' = 8 ∨ a' = 40 ∨ a' = 5) → ¬ (a' = 7 ∧ (d' = 0 ∨ d' = 40 ∨ d' = 41)) → v a' b' d' = ρ a' b' d' := fun a' b' d' q1 q2 q3 q4 q5 q6 => by
          rw [hvk a' b' d' q3 q4 (by omega) q6, hsk a' b' d' q1 q2, x_up_n (by omega)]
        refine ⟨hv700, fun _ => by rw [hv800, hr, hr', f3], ?_⟩
        obtain ⟨hb, hm⟩ := t1.to (v := v) (fun a' b' d' q => hvk a' b' d' (by omega) (by omega) (by omega) (by omega)) (hvk 6 0 12 (by omega) (by omega) (by omega) (by omega)) (fun _ _ _ _ => rfl)
        refine ⟨⟨?_, hh.K.S0, ?_, ?_, t3, t5, ?_, hh.K.C0, ?_, ?_, hh.K.O0, ?_, ?_⟩, (hR'.S.up.cut hi (fun a' b' d' q => hvr a' b' d' (by omega) (by omega) (by omega) (by omega) (by omega) (by omega)) (fun b' d' => ?_) (fun d' => ?_)), hb, hm, ?_, hR'.O.mv (fun a' b' d' q => hvr a' b' d' (by omega) (by omega) (by omega) (by omega) (by omega) (by omega))⟩
        · rw [hvr 6 0 1 (by omega) (by omega) (by omega) (by omega) (by omega) (by omega)]; exact hR'.K.S
        · rw [hvr 7 0 1 (by omega) (by omega) (by omega) (by omega) (by omega) (by omega)]; exact hR'.K.S7
        · rw [hvk 6 0 3 (by omega) (by omega) (by omega) (by omega)]; exact t4
        · rw [hvr 6 0 6 (by omega) (by omega) (by omega) (by omega) (by omega) (by omega)]; exact hR'.K.C
        · rw [hvr 7 0 3 (by omega) (by omega) (by omega) (by omega) (by omega) (by omega)]; exact hR'.K.C7
        · rw [hvr 6 0 8 (by omega) (by omega) (by omega) (by omega) (by omega) (by omega)]; exact hR'.K.O
        · rw [hvr 7 0 4 (by omega) (by omega) (by omega) (by omega) (by omega) (by omega)]; exact hR'.K.O7
        · rw [hvr 7 0 5 (by omega) (by omega) (by omega) (by omega) (by omega) (by omega), hvr 6 0 13 (by omega) (by omega) (by omega) (by omega) (by omega) (by omega)]; exact hR'.K.P
        · rw [hvk 5 b' d' (by omega) (by omega) (by omega) (by omega), hsk 5 b' d' (by omega) (by omega), x_up]
          by_cases q : b' = x_c a ∧ d' = 4
          · rw [if_pos ⟨rfl, q.1, q.2⟩, if_pos q]
          · rw [if_neg (fun w => q w.2), if_neg q]
        · rw [hv40, hρ7 40 0 d' (by omega)]
        · have hC := hR'.C
          have e1 : ∀ b' d', v 1 b' d' = ρ 1 b' d' := fun b' d' => hvr 1 b' d' (by omega) (by omega) (by omega) (by omega) (by omega) (by omega)
          have e5x : ∀ a' b' d', 55 ≤ a' ∧ a' ≤ 59 → v a' b' d' = ρ a' b' d' := fun a' b' d' q => hvr a' b' d' (by omega) (by omega) (by omega) (by omega) (by omega) (by omega)
          refine ⟨?_, ?_, ?_⟩
          · intro c hc; rw [e1, e1, e1, e1, e5x 55 0 c (by omega), e5x 56 0 c (by omega), e5x 57 0 c (by omega), e5x 58 0 c (by omega)]; exact hC.e c hc
          · intro c k hc hk
            rw [e5x 59 0 _ (by omega), hvr 10 c k (by omega) (by omega) (by omega) (by omega) (by omega) (by omega)]
            obtain ⟨w1, b', w2, w3⟩ := hC.o c k hc hk
            exact ⟨w1, b', by omega, w3⟩
          · intro c hc
            have e : ∀ b, m_ext v b c 12 = m_ext ρ b c 12 := fun b => m_ext_cong (fun q hq => ⟨e5x 59 0 _ (by omega), by
              obtain ⟨w1, b', w2, w3⟩ := hC.o c q hc hq
              have : x_c (ρ 59 0 (12 * c + q)) = b' := by rw [w1, w3, x_cn (by omega)]
              exact hvr 43 0 _ (by omega) (by omega) (by omega) (by omega) (by omega) (by omega)⟩) 12 (Nat.le_refl _)
            rw [e1, e1, e, e]; exact hC.x c hc
      · obtain ⟨rfl, rfl, rfl⟩ := hno hroom
        obtain ⟨rfl, rfl⟩ := mno (by rw [e7]; exact hroom)
        refine ⟨by rw [m_fd_kp hσ1 (by omega) (by omega), x_up_s], fun _ => by rw [m_fd_kp hσ1 (by omega) (by omega), x_t8], hR'.keep (fun a' b' d' q1 q2 => by rw [m_fd_kp hσ1 (by omega) (by omega), x_up_n (by omega), x_up_n (by omega)])⟩
    · obtain ⟨rfl, rfl, hσ⟩ := hc1 h4
      replace hσ := hσ.symm; subst hσ
      refine ⟨hag, (x_M7.rf σ).o _, fun r' v hv => ?_⟩
      obtain ⟨-, hv2, -⟩ := hv
      rw [x_o8 (by decide), hS, x_o8 (by decide), hh.S.e4 _ hi] at hv2
      obtain ⟨rfl, rfl⟩ := hv2 hP h4
      exact ⟨x_up_s, fun _ => x_t8, hh.rd _ _⟩
  · obtain ⟨rfl, rfl, hσ⟩ : ad' = ad ∧ m' = nB ∧ τ = σ := by
      have := Prod.mk.inj he
      have := Prod.mk.inj this.2
      exact ⟨by simp_all, by simp_all, by simp_all⟩
    replace hσ := hσ.symm; subst hσ
    refine ⟨fun _ _ _ => rfl, x_M7.rf σ, fun r' v hv => ?_⟩
    obtain ⟨hv1, -, -⟩ := hv
    rw [hS] at hv1
    rw [hv1 hP]
    exact ⟨x_up_s, fun q => absurd q (by decide), hh.rd0 _⟩
