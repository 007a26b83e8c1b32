/-! the cut that is written is the one that the reference finds -/
def ca_0 : Nat → Nat := fun _ => 0
def cu_T (σ : x_St) (i R C : Nat) : Nat → Nat := ca_T 100 (ca_G σ i R C) C (R * C) (R * C) ca_0
/-- the cut that a shell holds is the one that the reference finds -/
def f_cu (σ : x_St) (i R C : Nat) : Prop :=
  (∀ p, p < R * C → σ 16 i p = nI (cu_T σ i R C p)) ∧
  (∀ p, p < R * C → ¬ cu_T σ i R C p = 0 → σ 17 i p = m_th (m_G σ i C) R C p (cu_T σ i R C p)) ∧
  σ 5 i 7 = ca_s (ca_w σ i R C (cu_T σ i R C)) (cu_T σ i R C) (R * C) 0 0 ∧ σ 5 i 8 = ca_s (fun _ => 1) (cu_T σ i R C) (R * C) 0 0
theorem cu_G_cong {σ σ' : x_St} {i R C : Nat} (h39 : ∀ b d, σ' 39 b d = σ 39 b d) (h41 : ∀ b d, σ' 41 b d = σ 41 b d) : m_G σ' i C = m_G σ i C ∧ ca_G σ' i R C = ca_G σ i R C ∧ ∀ T, ca_w σ' i R C T = ca_w σ i R C T := by
  have e1 : m_G σ' i C = m_G σ i C := by funext y x; exact h39 _ _
  refine ⟨e1, ?_, fun T => ?_⟩
  · funext p n; unfold ca_G; rw [e1, h41]
  · funext p; unfold ca_w; rw [e1, h41]
theorem f_cu_cong {σ σ' : x_St} {i R C : Nat} (h39 : ∀ b d, σ' 39 b d = σ 39 b d) (h41 : ∀ b d, σ' 41 b d = σ 41 b d) (h16 : ∀ d, σ' 16 i d = σ 16 i d) (h17 : ∀ d, σ' 17 i d = σ 17 i d) (h7 : σ' 5 i 7 = σ 5 i 7) (h8 : σ' 5 i 8 = σ 5 i 8) (h : f_cu σ i R C) : f_cu σ' i R C := by
  obtain ⟨e1, e2, e3⟩ := cu_G_cong (i := i) (R := R) (C := C) h39 h41
  have e4 : cu_T σ' i R C = cu_T σ i R C := by unfold cu_T; rw [e2]
  obtain ⟨a, b, c, d⟩ := h
  refine ⟨fun p hp => ?_, fun p hp => ?_, ?_, ?_⟩
  · rw [h16, e4]; exact a p hp
  · rw [h17, e4, e1]; exact b p hp
  · rw [h7, e4, e3]; exact c
  · rw [h8, e4]; exact d
theorem cu_dg0 : m_dg 0 = ca_0 := by
  funext x
  unfold m_dg ca_0
  simp
/-- .. on the reference's side -/
theorem cu_fd {σ σ1 : x_St} {i R C : Nat} (hH : ca_H σ i R C) (hR : x_c (σ 36 0 i) = R) (hC : x_c (σ 37 0 i) = C) : (∀ p, p < R * C → m_fd σ i σ1 69 0 p = nI (cu_T σ i R C p)) ∧ m_fd σ i σ1 7 0 41 = ca_s (ca_w σ i R C (cu_T σ i R C)) (cu_T σ i R C) (R * C) 0 0 ∧ m_fd σ i σ1 7 0 40 = ca_s (fun _ => 1) (cu_T σ i R C) (R * C) 0 0 := by
  subst hR hC
  have h4 : 0 < 4 ^ x_c (σ 37 0 i) := Nat.pow_pos (by decide)
  obtain ⟨s1, s2⟩ := ca_sums hH (x_c (σ 36 0 i) * x_c (σ 37 0 i)) 0 (x_up (x_up σ1 7 0 40 0) 7 0 41 0) (Nat.le_refl _) h4
  refine ⟨fun p hp => ?_, ?_, ?_⟩
  · rw [m_fd, ca_told hH _ _ _ (Nat.le_refl _) h4 p (by omega) hp, cu_dg0]; rfl
  · rw [m_fd, s1, Nat.sub_self, cu_dg0, x_up_s]; rfl
  · rw [m_fd, s2, Nat.sub_self, cu_dg0, x_up_n (by simp), x_up_s]; rfl
/-! .. on the class's side: what writeCut writes, place by place -/
def cw_pl (C p : Nat) : Nat := 6 * (p / C) + p % C
def cw_f (i C : Nat) : Nat → Nat → x_St → x_St
  | 0, _, τ => τ
  | f + 1, p, τ => cw_f i C f (p + 1) (f_w1 i p (cw_pl C p) τ)
theorem cw_add (i C : Nat) : ∀ (a b p : Nat) (τ : x_St), cw_f i C (a + b) p τ = cw_f i C b (p + a) (cw_f i C a p τ)
  | 0, b, p, τ => by rw [Nat.zero_add]; rfl
  | a + 1, b, p, τ => by rw [show a + 1 + b = (a + b) + 1 by omega, cw_f, cw_add i C a b, cw_f, show p + 1 + a = p + (a + 1) by omega]
theorem cw_wi {i C r : Nat} : ∀ (f c : Nat) (τ : x_St), c + f ≤ C → f_wi i C r f c τ = cw_f i C f (C * r + c) τ
  | 0, _, _, _ => rfl
  | f + 1, c, τ, h => by
    rw [f_wi, cw_wi f (c + 1) _ (by omega), cw_f, cw_pl, Nat.mul_add_div (by omega), Nat.mul_add_mod, Nat.mod_eq_of_lt (by omega), Nat.div_eq_of_lt (by omega)]
    rfl
theorem cw_wo {i C : Nat} : ∀ (f r : Nat) (τ : x_St), f_wo9 i C f r τ = cw_f i C (C * f) (C * r) τ
  | 0, _, _ => rfl
  | f + 1, r, τ => by
    rw [f_wo9, cw_wo f (r + 1), cw_wi C 0 τ (by omega), show C * (f + 1) = C + C * f by rw [Nat.mul_add]; omega, cw_add, show C * (r + 1) = C * r + C by rw [Nat.mul_add]; omega]
    rfl
theorem cw_k {i C : Nat} : ∀ (f p : Nat) (τ : x_St) (a b d : Nat), ¬ (a = 16 ∧ b = i) → ¬ (a = 17 ∧ b = i) → ¬ (a = 5 ∧ b = i ∧ (d = 7 ∨ d = 8)) → cw_f i C f p τ a b d = τ a b d
  | 0, _, _, _, _, _, _, _, _ => rfl
  | f + 1, p, τ, a, b, d, h1, h2, h3 => by rw [cw_f, cw_k f _ _ a b d h1 h2 h3, f_w1_k h1 h2 h3]
theorem cw_lo {i C : Nat} : ∀ (f p : Nat) (τ : x_St) (q : Nat), q < p → cw_f i C f p τ 16 i q = τ 16 i q ∧ cw_f i C f p τ 17 i q = τ 17 i q
  | 0, _, _, _, _ => ⟨rfl, rfl⟩
  | f + 1, p, τ, q, h => by
    obtain ⟨h1, h2⟩ := cw_lo f (p + 1) (f_w1 i p (cw_pl C p) τ) q (by omega)
    rw [cw_f, h1, h2, f_w1]
    split
    · exact ⟨x_up_n (by omega), x_up_n (by omega)⟩
    · exact ⟨by rw [x_up_n (by omega), x_up_n (by omega), x_up_n (by omega), x_up_n (by omega)], by rw [x_up_n (by omega), x_up_n (by omega), x_up_n (by omega), x_up_n (by omega)]⟩
/-- sizes T, worths w and thicknesses h that stand in τ at the places from p on -/
def cw_H (i C : Nat) (T : Nat → Nat) (w h : Nat → Int32) (τ : x_St) (p e : Nat) : Prop := ∀ q, p ≤ q → q < e → T q ≤ 3 ∧ τ 14 0 (cw_pl C q) = nI (T q) ∧ (¬ T q = 0 → τ 12 0 (36 * T q + cw_pl C q) = w q ∧ m_th (f_G τ i) 6 6 (cw_pl C q) (T q) = h q)
theorem cw_H.st {i C p e : Nat} {T : Nat → Nat} {w h : Nat → Int32} {τ : x_St} (H : cw_H i C T w h τ p e) (own place : Nat) : cw_H i C T w h (f_w1 i own place τ) (p + 1) e := by
  intro q h1 h2
  obtain ⟨a, b, c⟩ := H q (by omega) h2
  have eG : f_G (f_w1 i own place τ) i = f_G τ i := by funext y x; exact f_w1_k (by simp) (by simp) (by simp)
  rw [f_w1_k (by simp) (by simp) (by simp), f_w1_k (by simp) (by simp) (by simp), eG]
  exact ⟨a, b, c⟩
theorem cw_all {i C : Nat} {T : Nat → Nat} {w h : Nat → Int32} : ∀ (f p : Nat) (τ : x_St), cw_H i C T w h τ p (p + f) →
    (∀ q, p ≤ q → q < p + f → cw_f i C f p τ 16 i q = nI (T q) ∧ (¬ T q = 0 → cw_f i C f p τ 17 i q = h q)) ∧
    cw_f i C f p τ 5 i 7 = ca_s w T f p (τ 5 i 7) ∧ cw_f i C f p τ 5 i 8 = ca_s (fun _ => 1) T f p (τ 5 i 8)
  | 0, p, τ, _ => ⟨fun q h1 h2 => by omega, rfl, rfl⟩
  | f + 1, p, τ, H => by
    obtain ⟨hT3, h14, hwh⟩ := H p (Nat.le_refl _) (by omega)
    obtain ⟨i1, i2, i3⟩ := cw_all f (p + 1) (f_w1 i p (cw_pl C p) τ) (by have := H.st p (cw_pl C p); rw [show p + (f + 1) = p + 1 + f by omega] at this; exact this)
    rw [cw_f, ca_s, ca_s]
    have hx : x_c (τ 14 0 (cw_pl C p)) = T p := by rw [h14, x_cn (by omega)]
    have hz : τ 14 0 (cw_pl C p) ≤ 0 ↔ T p = 0 := by
      rw [h14]
      exact ⟨fun q => x_z0 rfl (by omega) q, fun q => by rw [q]; decide⟩
    have e7 : f_w1 i p (cw_pl C p) τ 5 i 7 = if T p = 0 then τ 5 i 7 else τ 5 i 7 + w p := by
      rw [f_w1]
      by_cases q : T p = 0
      · rw [if_pos (hz.mpr q), if_pos q, x_up_n (by simp)]
      · rw [if_neg (fun z => q (hz.mp z)), if_neg q, x_up_n (by simp), x_up_s, hx, (hwh q).1]
    have e8 : f_w1 i p (cw_pl C p) τ 5 i 8 = if T p = 0 then τ 5 i 8 else τ 5 i 8 + 1 := by
      rw [f_w1]
      by_cases q : T p = 0
      · rw [if_pos (hz.mpr q), if_pos q, x_up_n (by simp)]
      · rw [if_neg (fun z => q (hz.mp z)), if_neg q, x_up_s]
    refine ⟨fun q h1 h2 => ?_, by rw [i2, e7], by rw [i3, e8]⟩
    by_cases hq : q = p
    · subst hq
      obtain ⟨l1, l2⟩ := cw_lo (i := i) (C := C) f (q + 1) (f_w1 i q (cw_pl C q) τ) q (by omega)
      rw [l1, l2, f_w1]
      by_cases q0 : T q = 0
      · rw [if_pos (hz.mpr q0), x_up_s]
        exact ⟨h14, fun z => absurd q0 z⟩
      · rw [if_neg (fun z => q0 (hz.mp z)), x_up_n (by simp), x_up_n (by simp), x_up_n (by simp), x_up_s, x_up_n (by simp), x_up_n (by simp), x_up_s, hx]
        exact ⟨h14, fun _ => (hwh q0).2⟩
    · exact i1 q (by omega) (by omega)
theorem cu_le {lam : Int} {G : Nat → Nat → Int} {C N : Nat} : ∀ (f : Nat) (d : Nat → Nat) (q : Nat), ca_T lam G C N f d q ≤ 3
  | 0, _, _ => by show 0 ≤ 3; decide
  | f + 1, d, q => by
    rw [ca_T]
    split
    · rw [ca_z]; repeat (first | omega | split)
    · exact cu_le f _ _
/-- a plan that is made is the reference's cut -/
theorem cu_pn {σ σ' : x_St} {i R C : Nat} (hH : cb_H σ i R C) (hR1 : 1 ≤ R) (h : f_pn σ i R C σ') : f_cu σ' i R C := by
  obtain ⟨τ, t1, t2, rfl⟩ := h
  obtain ⟨hC1, hC6, hR6, _⟩ := id hH
  have hN := ca_N36 hH.ca
  have e15 : f_G τ i = f_G σ i := by funext y x; show τ 15 i _ = _; rw [t1 15 i _ (by decide) (by decide)]; exact f_rG_k (by decide)
  have e12 : ∀ q, τ 12 0 q = f_rG σ i 108 12 0 q := fun q => t1 12 0 q (by decide) (by decide)
  have hp0 : cb_p R C 0 = 0 := by rw [cb_p, if_pos (show 0 / 6 < R by omega)]; simp
  have hD0 : cb_D C 0 ca_0 := ⟨fun x => by unfold ca_g ca_0; simp, fun _ _ => rfl⟩
  have hT : ∀ p, p < R * C → τ 14 0 (cw_pl C p) = nI (cu_T σ i R C p) := by
    intro p hp
    have hr : p / C < R := Nat.div_lt_of_lt_mul (by rw [Nat.mul_comm]; exact hp)
    have hc : p % C < C := Nat.mod_lt _ (by omega)
    rw [t2 _ (by unfold cw_pl; omega), cw_pl, cb_cs hH 36 0 0 _ ca_0 (by decide) hD0 (fun _ _ => rfl) _ _ hr hc, if_neg (by omega), hp0, Nat.sub_zero, Nat.div_add_mod, cu_T, ca_T_eq _ hN]
  have hin : ∀ p, p < R * C → p / C < R ∧ p % C < C := fun p hp => ⟨Nat.div_lt_of_lt_mul (by rw [Nat.mul_comm]; exact hp), Nat.mod_lt _ (by omega)⟩
  have hcw : cw_H i C (cu_T σ i R C) (ca_w σ i R C (cu_T σ i R C)) (fun p => m_th (m_G σ i C) R C p (cu_T σ i R C p)) (x_up (x_up τ 5 i 7 0) 5 i 8 0) 0 (0 + R * C) := by
    intro p _ hp
    have hp : p < R * C := by omega
    obtain ⟨hr, hc⟩ := hin p hp
    have h3 : cu_T σ i R C p ≤ 3 := cu_le _ _ _
    refine ⟨h3, by rw [x_up_n (by simp), x_up_n (by simp)]; exact hT p hp, fun h0 => ?_⟩
    have hg := f_rG_v (σ := σ) (i := i) (z := cu_T σ i R C p) (pl := cw_pl C p) (by omega) h3 (by unfold cw_pl; omega)
    have hth := cb_th hH (z := cu_T σ i R C p) hr hc
    rw [Nat.div_add_mod] at hth
    constructor
    · rw [x_up_n (by simp), x_up_n (by simp), e12, hg, show f_bt9 σ i (cw_pl C p) (cu_T σ i R C p) = m_th (m_G σ i C) R C p (cu_T σ i R C p) from hth, ca_w]
      obtain ⟨t, ht, et, _⟩ := ca_Gv hH.ca (p := p) (show 1 ≤ cu_T σ i R C p by omega) h3
      rw [et, x_cn (by omega), hH.2.2.2.2.2.1 _ (by omega)]
    · have : f_G (x_up (x_up τ 5 i 7 0) 5 i 8 0) i = f_G σ i := by
        rw [← e15]; funext y x
        show x_up (x_up τ 5 i 7 0) 5 i 8 0 15 i _ = _
        rw [x_up_n (by simp), x_up_n (by simp)]; rfl
      rw [this]
      exact hth
  obtain ⟨a1, a2, a3⟩ := cw_all (R * C) 0 _ hcw
  rw [cw_wo, Nat.mul_comm C R, Nat.mul_zero]
  have hk : ∀ a b d, a = 39 ∨ a = 41 → x_up (cw_f i C (R * C) 0 (x_up (x_up τ 5 i 7 0) 5 i 8 0)) 5 i 9 (σ 2 0 1) a b d = σ a b d := by
    intro a b d ha
    rw [x_up_n (by omega), cw_k _ _ _ _ _ _ (by omega) (by omega) (by omega), x_up_n (by omega), x_up_n (by omega), t1 a b d (by omega) (by omega)]
    exact f_rG_k (by omega)
  obtain ⟨g1, g2, g3⟩ := cu_G_cong (i := i) (R := R) (C := C) (fun b d => hk 39 b d (Or.inl rfl)) (fun b d => hk 41 b d (Or.inr rfl))
  have g4 : cu_T (x_up (cw_f i C (R * C) 0 (x_up (x_up τ 5 i 7 0) 5 i 8 0)) 5 i 9 (σ 2 0 1)) i R C = cu_T σ i R C := by unfold cu_T; rw [g2]
  refine ⟨fun p hp => ?_, fun p hp h0 => ?_, ?_, ?_⟩
  · rw [g4, x_up_n (by simp)]; exact (a1 p (Nat.zero_le _) (by omega)).1
  · rw [g4] at h0 ⊢
    rw [g1, x_up_n (by simp)]; exact (a1 p (Nat.zero_le _) (by omega)).2 h0
  · rw [g4, g3, x_up_n (by simp), a2, x_up_n (by simp), x_up_s]
  · rw [g4, x_up_n (by simp), a3, x_up_s]
