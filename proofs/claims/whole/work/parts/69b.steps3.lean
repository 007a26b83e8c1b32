/-! buttons and machines, the class's side of α beside the reference's of β -/
def RW (α β : x_St) (nB n4 : Nat) : Prop := (∀ j q, j < nB → q ≤ 8 → β (42 + q) 0 j = α 0 j (f_bf q)) ∧ (∀ j, j < nB → ∃ t, 1 ≤ t ∧ t ≤ 3 ∧ α 0 j 0 = nI t) ∧ (∀ j, j < nB → ∃ t, 1 ≤ t ∧ t ≤ 9 ∧ α 0 j 1 = nI t) ∧ (∀ j, j < nB → ∃ t, t ≤ 9 ∧ α 0 j 2 = nI t) ∧ (∀ j, j < nB → α 0 j 5 = 0 → α 0 j 6 = 0) ∧ α 6 0 12 = nI (m_cnt β 3 nB) ∧ m_cnt β 4 nB = n4 ∧ ∀ j q, j < 6 → q < 4 → β (51 + q) 0 j = α 3 j q
theorem RW.of {σ : x_St} {nB nC : Nat} (h : RB σ nB nC) (hM : RM σ) : RW σ σ nB (12 * nC) := ⟨h.e, h.z, h.t, h.i, h.h, h.k3, h.k4, hM⟩
theorem RW.to {α β v : x_St} {nB nC : Nat} (h : RW α β nB (12 * nC)) (h0 : ∀ a b d, a = 0 ∨ a = 3 → v a b d = α a b d) (h12 : v 6 0 12 = α 6 0 12) (h1 : ∀ a b d, 42 ≤ a ∧ a ≤ 54 → v a b d = β a b d) : RB v nB nC ∧ RM v := by
  obtain ⟨e, z, t, i, hb, k3, k4, m⟩ := h
  have e0 : ∀ b d, v 0 b d = α 0 b d := fun b d => h0 0 b d (by omega)
  have ec : ∀ x, m_cnt v x nB = m_cnt β x nB := fun x => m_cnt_cong nB (fun q _ => h1 46 0 q (by omega))
  refine ⟨⟨?_, ?_, ?_, ?_, ?_, ?_, ?_⟩, ?_⟩
  · intro j q hj hq; rw [e0, h1 (42 + q) 0 j (by omega)]; exact e j q hj hq
  · intro j hj; rw [e0]; exact z j hj
  · intro j hj; rw [e0]; exact t j hj
  · intro j hj; rw [e0]; exact i j hj
  · intro j hj; rw [e0, e0]; exact hb j hj
  · rw [h12, ec]; exact k3
  · rw [ec]; exact k4
  · intro j q hj hq; rw [h0 3 j q (by omega), h1 (51 + q) 0 j (by omega)]; exact m j q hj hq
theorem m_cnt_set {σ σ' : x_St} {v s : Int32} {i : Nat} : ∀ n, i < n → (∀ q, q < n → σ' 46 0 q = if q = i then v else σ 46 0 q) → m_cnt σ' s n + (if σ 46 0 i = s then 1 else 0) = m_cnt σ s n + (if v = s then 1 else 0)
  | 0, h, _ => absurd h (Nat.not_lt_zero _)
  | n + 1, h, hq => by
    rw [m_cnt, m_cnt]
    by_cases e : i = n
    · subst e
      rw [m_cnt_cong (σ' := σ') (σ := σ) i (fun q h1 => by rw [hq q (by omega), if_neg (by omega)]), hq i (by omega), if_pos rfl]
      omega
    · have ih := m_cnt_set n (by omega) (fun q h1 => hq q (by omega)) (s := s)
      rw [hq n (by omega), if_neg (show ¬ n = i by omega)]
      omega
theorem x_if3 {mm : Nat} (h : mm < 6) : (nI mm < 3 ↔ ¬ 3 ≤ nI mm) := by
  rw [Int32.not_le]
/-- a button on a machine -/
theorem RW.wk {α β : x_St} {nB n4 mm i : Nat} (h : RW α β nB n4) (hm : mm < 6) (hi : i < nB) (hh : Int32) : (f_wk α mm i hh).1 = (m_wk β mm i hh).1 ∧ RW (f_wk α mm i hh).2 (m_wk β mm i hh).2 nB n4 := by
  obtain ⟨e, z, t, ti, hb, k3, k4, m⟩ := h
  obtain ⟨tz, tz1, tz3, ez⟩ := z i hi
  obtain ⟨tt, tt1, tt9, et⟩ := t i hi
  have e42 : β 42 0 i = α 0 i 0 := e i 0 hi (by decide)
  have e43 : β 43 0 i = α 0 i 1 := e i 1 hi (by decide)
  have e46 : β 46 0 i = α 0 i 5 := e i 4 hi (by decide)
  have m0 : β 51 0 mm = α 3 mm 0 := m mm 0 hm (by decide)
  have m1 : β 52 0 mm = α 3 mm 1 := m mm 1 hm (by decide)
  have m2 : β 53 0 mm = α 3 mm 2 := m mm 2 hm (by decide)
  have m3 : β 54 0 mm = α 3 mm 3 := m mm 3 hm (by decide)
  have hok : f_ok α mm i hh ↔ m_ok β mm i hh := by
    unfold f_ok m_ok
    rw [e46, e42]
    by_cases q : nI mm < 3
    · rw [if_pos q, if_neg (Int32.not_le.mpr q)]
    · rw [if_neg q, if_pos (Int32.not_lt.mp q)]
      have hs : (1 < α 0 i 0 ↔ ¬ α 0 i 0 = 1) := by
        rw [ez]
        have hl := nI_ltI (a := 1) (b := tz) (by decide) (by omega)
        have hq := nI_eq (a := tz) (b := 1) (by omega) (by decide)
        exact ⟨fun w u => by have := hl.mp w; have := hq.mp u; omega, fun w => hl.mpr (by have : ¬ tz = 1 := fun u => w (hq.mpr u); omega)⟩
      rw [hs]
      constructor
      · rintro ⟨a1, a2, a3⟩
        exact ⟨a1, a2.elim Or.inl (fun w => a3.elim Or.inl (fun u => Or.inr ⟨w, u⟩))⟩
      · rintro ⟨a1, a2⟩
        exact ⟨a1, a2.elim Or.inl (fun w => Or.inr w.1), a2.elim Or.inl (fun w => Or.inr w.2)⟩
  have hbr : f_brk α mm (α 0 i 1) ↔ m_brk β mm i := by
    unfold f_brk m_brk
    rw [m0, m1, e43]
    have hp : 0 < α 0 i 1 := by rw [et]; exact (nI_ltI (a := 0) (by decide) (by omega)).mpr tt1
    constructor
    · rintro ⟨a1, a2⟩
      exact ⟨a1, a2.imp id (fun w => w.2)⟩
    · rintro ⟨a1, a2⟩
      exact ⟨a1, a2.imp id (fun w => ⟨hp, w⟩)⟩
  rw [f_wk, m_wk]
  by_cases q : f_ok α mm i hh
  · rw [if_neg (not_not_intro q), if_neg (not_not_intro (hok.mp q))]
    have hst : α 0 i 5 = 0 ∨ α 0 i 5 = 1 := by
      unfold f_ok at q
      split at q
      · exact Or.inl q
      · exact Or.inr q.1
    by_cases qb : f_brk α mm (α 0 i 1)
    · have eb : f_brk' α mm (α 0 i 1) = x_up (x_up α 3 mm 0 (α 3 mm 0 + α 0 i 1)) 3 mm 3 (α 3 mm 3 + 1) := by rw [f_brk', if_pos qb]
      rw [if_pos qb, if_pos (hbr.mp qb), eb]
      clear eb
      refine ⟨rfl, ?_, ?_, ?_, ?_, ?_, ?_, ?_, ?_⟩
      · intro j q hj hq
        have hq9 : q = 0 ∨ q = 1 ∨ q = 2 ∨ q = 3 ∨ q = 4 ∨ q = 5 ∨ q = 6 ∨ q = 7 ∨ q = 8 := by omega
        have := e j q hj hq
        by_cases hj2 : j = i
        · subst hj2
          rcases hq9 with rfl | rfl | rfl | rfl | rfl | rfl | rfl | rfl | rfl <;> simpa [x_up, f_bf] using this
        · rcases hq9 with rfl | rfl | rfl | rfl | rfl | rfl | rfl | rfl | rfl <;> simpa [x_up, f_bf, hj2] using this
      · intro j hj; have := z j hj; simpa [x_up] using this
      · intro j hj; have := t j hj; simpa [x_up] using this
      · intro j hj; have := ti j hj; simpa [x_up] using this
      · intro j hj
        have := hb j hj
        by_cases hj2 : j = i
        · subst hj2; simp [x_up]
        · simpa [x_up, hj2] using this
      · have hc := m_cnt_set (σ := β) (σ' := x_up (x_up (x_up (x_up β 51 0 mm (β 51 0 mm + β 43 0 i)) 46 0 i 3) 48 0 i (nI mm)) 54 0 mm (β 54 0 mm + 1)) (v := 3) (s := 3) nB hi (fun q _ => by simp [x_up])
        have h3 : ¬ β 46 0 i = 3 := by rw [e46]; rcases hst with w | w <;> rw [w] <;> decide
        rw [if_neg h3, if_pos rfl] at hc
        dsimp only
        rw [x_up_s, k3, nI_1, show m_cnt β 3 nB + 1 = m_cnt (x_up (x_up (x_up (x_up β 51 0 mm (β 51 0 mm + β 43 0 i)) 46 0 i 3) 48 0 i (nI mm)) 54 0 mm (β 54 0 mm + 1)) 3 nB by omega]
      · have hc := m_cnt_set (σ := β) (σ' := x_up (x_up (x_up (x_up β 51 0 mm (β 51 0 mm + β 43 0 i)) 46 0 i 3) 48 0 i (nI mm)) 54 0 mm (β 54 0 mm + 1)) (v := 3) (s := 4) nB hi (fun q _ => by simp [x_up])
        have h3 : ¬ β 46 0 i = 4 := by rw [e46]; rcases hst with w | w <;> rw [w] <;> decide
        rw [if_neg h3, if_neg (by decide)] at hc
        dsimp only
        omega
      · intro j q hj hq
        have hq9 : q = 0 ∨ q = 1 ∨ q = 2 ∨ q = 3 := by omega
        have := m j q hj hq
        by_cases hj2 : j = mm
        · subst hj2
          rcases hq9 with rfl | rfl | rfl | rfl <;> simp [x_up, m0, m3, e43] <;> simpa using this
        · rcases hq9 with rfl | rfl | rfl | rfl <;> simpa [x_up, hj2] using this
    · have eb : f_brk' α mm (α 0 i 1) = x_up (x_up α 3 mm 0 (α 3 mm 0 + α 0 i 1)) 3 mm 2 (α 3 mm 2 + 1) := by rw [f_brk', if_neg qb]
      rw [if_neg qb, if_neg (fun w => qb (hbr.mpr w)), eb]
      clear eb
      have hcnt : ∀ (s x : Int32), (s = 3 ∨ s = 4) → (x = 1 ∨ x = 2) → ∀ y w1 w2 : Int32, m_cnt (x_up (x_up (x_up (x_up β 51 0 mm w1) 46 0 i x) 47 0 i y) 53 0 mm w2) s nB = m_cnt β s nB := by
        intro s x hs hx y w1 w2
        have hc := m_cnt_set (σ := β) (σ' := x_up (x_up (x_up (x_up β 51 0 mm w1) 46 0 i x) 47 0 i y) 53 0 mm w2) (v := x) (s := s) nB hi (fun q _ => by simp [x_up])
        have h3 : ¬ β 46 0 i = s := by rw [e46]; rcases hst with w | w <;> rcases hs with rfl | rfl <;> rw [w] <;> decide
        have h4 : ¬ x = s := by rcases hx with rfl | rfl <;> rcases hs with rfl | rfl <;> decide
        rw [if_neg h3, if_neg h4] at hc
        omega
      by_cases q3 : nI mm < 3
      · have q4 : ¬ 3 ≤ nI mm := Int32.not_le.mpr q3
        have hs0 : α 0 i 5 = 0 := by have := q; rw [f_ok, if_pos q3] at this; exact this
        have hh0 := hb i hi hs0
        simp only [if_pos q3, if_neg q4]
        refine ⟨trivial, ?_, ?_, ?_, ?_, ?_, ?_, ?_, ?_⟩
        · intro j q hj hq
          have hq9 : q = 0 ∨ q = 1 ∨ q = 2 ∨ q = 3 ∨ q = 4 ∨ q = 5 ∨ q = 6 ∨ q = 7 ∨ q = 8 := by omega
          have := e j q hj hq
          by_cases hj2 : j = i
          · subst hj2
            rcases hq9 with rfl | rfl | rfl | rfl | rfl | rfl | rfl | rfl | rfl <;> simp [x_up, f_bf, hh0] <;> simpa [f_bf] using this
          · rcases hq9 with rfl | rfl | rfl | rfl | rfl | rfl | rfl | rfl | rfl <;> simpa [x_up, f_bf, hj2] using this
        · intro j hj; have := z j hj; simpa [x_up] using this
        · intro j hj; have := t j hj; simpa [x_up] using this
        · intro j hj; have := ti j hj; simpa [x_up] using this
        · intro j hj
          have := hb j hj
          by_cases hj2 : j = i
          · subst hj2; simp [x_up]
          · simpa [x_up, hj2] using this
        · rw [hcnt 3 1 (Or.inl rfl) (Or.inl rfl), ← k3]; simp [x_up]
        · rw [hcnt 4 1 (Or.inr rfl) (Or.inl rfl)]; exact k4
        · intro j q hj hq
          have hq9 : q = 0 ∨ q = 1 ∨ q = 2 ∨ q = 3 := by omega
          have := m j q hj hq
          by_cases hj2 : j = mm
          · subst hj2
            rcases hq9 with rfl | rfl | rfl | rfl <;> simp [x_up, m0, m2, e43] <;> simpa using this
          · rcases hq9 with rfl | rfl | rfl | rfl <;> simpa [x_up, hj2] using this
      · have q4 : 3 ≤ nI mm := Int32.not_lt.mp q3
        simp only [if_neg q3, if_pos q4]
        refine ⟨trivial, ?_, ?_, ?_, ?_, ?_, ?_, ?_, ?_⟩
        · intro j q hj hq
          have hq9 : q = 0 ∨ q = 1 ∨ q = 2 ∨ q = 3 ∨ q = 4 ∨ q = 5 ∨ q = 6 ∨ q = 7 ∨ q = 8 := by omega
          have := e j q hj hq
          by_cases hj2 : j = i
          · subst hj2
            rcases hq9 with rfl | rfl | rfl | rfl | rfl | rfl | rfl | rfl | rfl <;> simpa [x_up, f_bf] using this
          · rcases hq9 with rfl | rfl | rfl | rfl | rfl | rfl | rfl | rfl | rfl <;> simpa [x_up, f_bf, hj2] using this
        · intro j hj; have := z j hj; simpa [x_up] using this
        · intro j hj; have := t j hj; simpa [x_up] using this
        · intro j hj; have := ti j hj; simpa [x_up] using this
        · intro j hj
          have := hb j hj
          by_cases hj2 : j = i
          · subst hj2; simp [x_up]
          · simpa [x_up, hj2] using this
        · rw [hcnt 3 2 (Or.inl rfl) (Or.inr rfl), ← k3]; simp [x_up]
        · rw [hcnt 4 2 (Or.inr rfl) (Or.inr rfl)]; exact k4
        · intro j q hj hq
          have hq9 : q = 0 ∨ q = 1 ∨ q = 2 ∨ q = 3 := by omega
          have := m j q hj hq
          by_cases hj2 : j = mm
          · subst hj2
            rcases hq9 with rfl | rfl | rfl | rfl <;> simp [x_up, m0, m2, e43] <;> simpa using this
          · rcases hq9 with rfl | rfl | rfl | rfl <;> simpa [x_up, hj2] using this
  · rw [if_pos q, if_pos (fun w => q (hok.mpr w))]
    exact ⟨rfl, e, z, t, ti, hb, k3, k4, m⟩
theorem f_wk_k {α : x_St} {mm i : Nat} {h : Int32} {a b d : Nat} (q : ¬ (a = 0 ∨ a = 3 ∨ (a = 6 ∧ d = 12))) : (f_wk α mm i h).2 a b d = α a b d := by
  have eb : ∀ t, f_brk' α mm t a b d = α a b d := fun t => by
    rw [f_brk']
    split <;> rw [x_up_n (by omega), x_up_n (by omega)]
  rw [f_wk]
  split
  · rfl
  · split
    · dsimp only
      rw [x_up_n (by omega), x_up_n (by omega), x_up_n (by omega), eb]
    · dsimp only
      split
      · rw [x_up_n (by omega), eb]
      · rw [x_up_n (by omega), x_up_n (by omega), eb]
theorem m_wk_k {β : x_St} {mm i : Nat} {h : Int32} {a b d : Nat} (q : ¬ (46 ≤ a ∧ a ≤ 54)) : (m_wk β mm i h).2 a b d = β a b d := by
  rw [m_wk]
  split
  · rfl
  · split <;> dsimp only <;> rw [x_up_n (by omega), x_up_n (by omega), x_up_n (by omega), x_up_n (by omega)]
theorem f_ws_k {mm : Nat} {h : Int32} : ∀ (f i : Nat) (α : x_St) (c a b d : Nat), ¬ (a = 0 ∨ a = 3 ∨ (a = 6 ∧ d = 12)) → (f_ws mm h f i α c).2 a b d = α a b d
  | 0, _, _, _, _, _, _, _ => rfl
  | f + 1, i, α, c, a, b, d, q => by rw [f_ws, f_ws_k f _ _ _ a b d q, f_wk_k q]
theorem m_ws_k {mm : Nat} {h : Int32} : ∀ (f i : Nat) (β : x_St) (c a b d : Nat), ¬ (46 ≤ a ∧ a ≤ 54) → (m_ws mm h f i β c).2 a b d = β a b d
  | 0, _, _, _, _, _, _, _ => rfl
  | f + 1, i, β, c, a, b, d, q => by rw [m_ws, m_ws_k f _ _ _ a b d q, m_wk_k q]
theorem RW.ws {mm n4 nB : Nat} (hm : mm < 6) (h : Int32) : ∀ (f i : Nat) (α β : x_St) (c : Nat), i + f ≤ nB → RW α β nB n4 → (f_ws mm h f i α c).1 = (m_ws mm h f i β c).1 ∧ RW (f_ws mm h f i α c).2 (m_ws mm h f i β c).2 nB n4
  | 0, _, _, _, _, _, hw => ⟨rfl, hw⟩
  | f + 1, i, α, β, c, hf, hw => by
    obtain ⟨e, hw2⟩ := hw.wk hm (show i < nB by omega) h
    rw [f_ws, m_ws, e]
    exact RW.ws hm h f (i + 1) _ _ _ (by omega) hw2
/-- buttons and machines have changed, as they should -/
theorem Rl.bm {σ v : x_St} {nS nB nC nO N : Nat} (hh : Rl σ nS nB nC nO N) (hk : ∀ a b d, ¬ (a = 8 ∨ a = 0 ∨ a = 3 ∨ (44 ≤ a ∧ a ≤ 54) ∨ (a = 6 ∧ d = 12)) → ¬ (a = 7 ∧ d = 0) → v a b d = σ a b d) (h : RB v nB nC ∧ RM v) : Rl v nS nB nC nO (N + 1) :=
  ⟨hh.K.mv (fun d _ => hk 6 0 d (by omega) (by omega)) (fun d _ => hk 7 0 d (by omega) (by omega)), hh.S.up.mv (fun a b d _ => hk a b d (by omega) (by omega)), h.1, h.2, hh.C.mv (fun a b d _ => hk a b d (by omega) (by omega)), hh.O.mv (fun a b d _ => hk a b d (by omega) (by omega))⟩
theorem sp_work {ad : Nat → Nat → Nat} {nS nB nC nO N : Nat} {σ : x_St} {a b h : Int32} {kk : Int32} {u : x_St} (hh : Rl σ nS nB nC nO N) (hq : q_L_work ad nS nB nC nO σ a b h kk u) : x_M7 σ u ∧ ∀ (r : Int32) (v : x_St), q_X7_work u a b h r v → v 7 0 0 = kk ∧ (kk = 0 → v 8 0 0 = r) ∧ Rl v nS nB nC nO (N + 1) := by
  have hS : σ 7 0 2 = σ 6 0 3 := hh.K.B7.trans hh.K.B.symm
  rcases hq with ⟨rfl, r, σ', ⟨hP, hr, rfl⟩, rfl⟩ | ⟨rfl, ⟨_, hP⟩, hσ⟩
  · have hi : x_c b < nB := (x_ix hP.2.1 hP.2.2 hh.K.B (by have := hh.K.B0; omega)).2
    have hm : x_c a ≤ 5 := (x_ixle hP.1.1 hP.1.2 (N := 5) rfl (by decide)).2
    have hm7 : x_M7 σ (f_wk σ (x_c a) (x_c b) h).2 := fun a' b' d' q => f_wk_k (by omega)
    refine ⟨hm7.o r, fun r' v hv => ?_⟩
    obtain ⟨hv1, -⟩ := hv
    rw [x_o8 (by decide), hm7 7 0 2 (by omega), hS] at hv1
    obtain ⟨e1, rfl⟩ := hv1 hP
    have hw : RW σ (x_up (x_up (f_wk σ (x_c a) (x_c b) h).2 8 0 0 r) 7 0 0 0) nB (12 * nC) := by
      obtain ⟨e, z, t, i, hb, k3, k4, m⟩ := RW.of hh.B hh.M
      have ek : ∀ a' b' d', 36 ≤ a' → x_up (x_up (f_wk σ (x_c a) (x_c b) h).2 8 0 0 r) 7 0 0 0 a' b' d' = σ a' b' d' := fun a' b' d' q => by rw [x_up_n (by omega), x_up_n (by omega)]; exact hm7 a' b' d' (Or.inr q)
      have ec : ∀ x, m_cnt (x_up (x_up (f_wk σ (x_c a) (x_c b) h).2 8 0 0 r) 7 0 0 0) x nB = m_cnt σ x nB := fun x => m_cnt_cong nB (fun q _ => ek 46 0 q (by omega))
      exact ⟨fun j q hj hq => by rw [ek _ _ _ (by omega)]; exact e j q hj hq, z, t, i, hb, by rw [ec]; exact k3, by rw [ec]; exact k4, fun j q hj hq => by rw [ek _ _ _ (by omega)]; exact m j q hj hq⟩
    obtain ⟨w1, w2⟩ := hw.wk (show x_c a < 6 by omega) hi h
    refine ⟨?_, fun _ => ?_, ?_⟩
    · rw [m_wk_k (by omega), x_up_s]
    · rw [m_wk_k (by omega), x_t8, hr, e1, w1]
    · refine hh.bm (fun a' b' d' q1 q2 => ?_) (w2.to (fun a' b' d' q => ?_) ?_ (fun a' b' d' q => rfl))
      · rw [m_wk_k (by omega), x_up_n (by omega), x_up_n (by omega), f_wk_k (by omega)]
      · rw [m_wk_k (by omega), x_up_n (by omega), x_up_n (by omega)]
      · rw [m_wk_k (by omega), x_up_n (by omega), x_up_n (by omega)]
  · replace hσ := hσ.symm; subst hσ
    refine ⟨x_M7.rf σ, fun r' v hv => ?_⟩
    obtain ⟨-, hv2⟩ := hv
    rw [hS] at hv2
    rw [hv2 hP]
    exact ⟨x_up_s, fun q => absurd q (by decide), hh.rd0 _⟩
theorem sp_works {ad : Nat → Nat → Nat} {nS nB nC nO N : Nat} {σ : x_St} {a b d f : Int32} {kk : Int32} {u : x_St} (hh : Rl σ nS nB nC nO N) (hq : q_L_works ad nS nB nC nO σ a b d f kk u) : x_M7 σ u ∧ ∀ (r : Int32) (v : x_St), q_X7_works u a b d f nB r v → v 7 0 0 = kk ∧ (kk = 0 → v 8 0 0 = r) ∧ Rl v nS nB nC nO (N + 1) := by
  rcases hq with ⟨rfl, r, σ', ⟨hP, hr, rfl⟩, rfl⟩ | ⟨rfl, hP, hσ⟩ | ⟨rfl, hP, hσ⟩
  · have hm : x_c a ≤ 5 := (x_ixle hP.1.1 hP.1.2 (N := 5) rfl (by decide)).2
    have hm7 : x_M7 σ (f_ws (x_c a) f (min (x_c d) nB - x_c b) (x_c b) σ 0).2 := fun a' b' d' q => f_ws_k _ _ _ _ _ _ _ (by omega)
    refine ⟨hm7.o r, fun r' v hv => ?_⟩
    obtain ⟨hv1, -, -⟩ := hv
    obtain ⟨e1, rfl⟩ := hv1 hP.1 hP.2
    have hw : RW σ (x_up (x_up (f_ws (x_c a) f (min (x_c d) nB - x_c b) (x_c b) σ 0).2 8 0 0 r) 7 0 0 0) nB (12 * nC) := by
      obtain ⟨e, z, t, i, hb, k3, k4, m⟩ := RW.of hh.B hh.M
      have ek : ∀ a' b' d', 36 ≤ a' → x_up (x_up (f_ws (x_c a) f (min (x_c d) nB - x_c b) (x_c b) σ 0).2 8 0 0 r) 7 0 0 0 a' b' d' = σ a' b' d' := fun a' b' d' q => by rw [x_up_n (by omega), x_up_n (by omega)]; exact hm7 a' b' d' (Or.inr q)
      have ec : ∀ x, m_cnt (x_up (x_up (f_ws (x_c a) f (min (x_c d) nB - x_c b) (x_c b) σ 0).2 8 0 0 r) 7 0 0 0) x nB = m_cnt σ x nB := fun x => m_cnt_cong nB (fun q _ => ek 46 0 q (by omega))
      exact ⟨fun j q hj hq => by rw [ek _ _ _ (by omega)]; exact e j q hj hq, z, t, i, hb, by rw [ec]; exact k3, by rw [ec]; exact k4, fun j q hj hq => by rw [ek _ _ _ (by omega)]; exact m j q hj hq⟩
    by_cases hle : x_c b ≤ nB
    · obtain ⟨w1, w2⟩ := RW.ws (show x_c a < 6 by omega) f (min (x_c d) nB - x_c b) (x_c b) _ _ 0 (by omega) hw
      refine ⟨?_, fun _ => ?_, ?_⟩
      · rw [m_ws_k _ _ _ _ _ _ _ (by omega), x_up_s]
      · rw [m_ws_k _ _ _ _ _ _ _ (by omega), x_t8, hr, e1, w1]
      · refine hh.bm (fun a' b' d' q1 q2 => ?_) (w2.to (fun a' b' d' q => ?_) ?_ (fun a' b' d' q => rfl))
        · rw [m_ws_k _ _ _ _ _ _ _ (by omega), x_up_n (by omega), x_up_n (by omega), f_ws_k _ _ _ _ _ _ _ (by omega)]
        · rw [m_ws_k _ _ _ _ _ _ _ (by omega), x_up_n (by omega), x_up_n (by omega)]
        · rw [m_ws_k _ _ _ _ _ _ _ (by omega), x_up_n (by omega), x_up_n (by omega)]
    · have e0 : min (x_c d) nB - x_c b = 0 := by omega
      rw [e0] at hr e1 ⊢
      refine ⟨show x_up (x_up σ 8 0 0 r) 7 0 0 0 7 0 0 = 0 from x_up_s, fun _ => ?_, ?_⟩
      · show x_up (x_up σ 8 0 0 r) 7 0 0 0 8 0 0 = r'
        rw [x_t8, hr, e1]; rfl
      · exact hh.rd _ _
  · replace hσ := hσ.symm; subst hσ
    refine ⟨x_M7.rf σ, fun r' v hv => ?_⟩
    obtain ⟨-, hv2, -⟩ := hv
    have hn : ¬ (0 ≤ a ∧ a ≤ 5) := by
      rcases hP with ⟨_, q⟩ | ⟨q, _⟩
      · exact q
      · exact absurd q (by decide)
    rw [hv2 hn]
    exact ⟨x_up_s, fun q => absurd q (by decide), hh.rd0 _⟩
  · replace hσ := hσ.symm; subst hσ
    refine ⟨x_M7.rf σ, fun r' v hv => ?_⟩
    obtain ⟨-, -, hv2⟩ := hv
    have hn : (0 ≤ a ∧ a ≤ 5) ∧ ¬ (0 ≤ b ∧ b ≤ d) := by
      rcases hP with ⟨q, _⟩ | ⟨_, q⟩
      · exact absurd q (by decide)
      · exact q
    rw [hv2 hn.1 hn.2]
    exact ⟨x_up_s, fun q => absurd q (by decide), hh.rd0 _⟩
theorem f_bl_k {s h : Int32} : ∀ (f i : Nat) (α : x_St) (c a b d : Nat), ¬ (a = 0 ∧ d = 2) → (f_bl s h f i α c).2 a b d = α a b d
  | 0, _, _, _, _, _, _, _ => rfl
  | f + 1, i, α, c, a, b, d, q => by
    rw [f_bl]
    split
    · rw [f_bl_k f _ _ _ a b d q]
      split
      · rfl
      · rw [x_up_n (by omega)]
    · exact f_bl_k f _ _ _ a b d q
theorem m_bl_k {s h : Int32} : ∀ (f i : Nat) (β : x_St) (c a b d : Nat), ¬ a = 44 → (m_bl s h f i β c).2 a b d = β a b d
  | 0, _, _, _, _, _, _, _ => rfl
  | f + 1, i, β, c, a, b, d, q => by
    rw [m_bl]
    split
    · rw [m_bl_k f _ _ _ a b d q, x_up_n (by omega)]
    · exact m_bl_k f _ _ _ a b d q
theorem x_pale {t h : Nat} (ht : t ≤ 9) (hh : h ≤ 9) : f_pal (nI t) (nI h) = nI (t - h) ∧ m_bv (nI t) (nI h) = nI (t - h) := by
  have hl := nI_ltI (a := h) (b := t) (by omega) (by omega)
  rw [f_pal, m_bv]
  by_cases q : h < t
  · have e : nI t - nI h = nI (t - h) := pk_sub (by omega)
    rw [e, if_pos (show (0 : Int32) < nI (t - h) from (nI_ltI (a := 0) (b := t - h) (by decide) (by omega)).mpr (by omega)), if_pos (hl.mpr q)]
    exact ⟨rfl, rfl⟩
  · rw [if_neg (fun w => q (hl.mp w)), show t - h = 0 by omega]
    refine ⟨?_, rfl⟩
    refine if_neg (fun w => ?_)
    rw [Int32.lt_iff_toInt_lt, oI_nI t, oI_nI h, oI_sub, oI_toInt (by omega) (by omega)] at w
    have : (0 : Int32).toInt = 0 := rfl
    rw [this] at w
    omega
theorem RW.bl {n4 nB : Nat} (s : Int32) {h : Nat} (hh : h ≤ 9) : ∀ (f i : Nat) (α β : x_St) (c : Nat), i + f ≤ nB → RW α β nB n4 → (f_bl s (nI h) f i α c).1 = (m_bl s (nI h) f i β c).1 ∧ RW (f_bl s (nI h) f i α c).2 (m_bl s (nI h) f i β c).2 nB n4
  | 0, _, _, _, _, _, hw => ⟨rfl, hw⟩
  | f + 1, i, α, β, c, hf, hw => by
    have hi : i < nB := by omega
    obtain ⟨e, z, t, ti, hb, k3, k4, m⟩ := id hw
    have e45 : β 45 0 i = α 0 i 3 := e i 3 hi (by decide)
    have e46 : β 46 0 i = α 0 i 5 := e i 4 hi (by decide)
    have e44 : β 44 0 i = α 0 i 2 := e i 2 hi (by decide)
    obtain ⟨tt, t9, et⟩ := ti i hi
    obtain ⟨p1, p2⟩ := x_pale t9 hh
    rw [← et] at p1 p2
    have pe : f_pal (α 0 i 2) (nI h) = m_bv (α 0 i 2) (nI h) := p1.trans p2.symm
    rw [f_bl, m_bl, e45, e46, e44]
    by_cases q : α 0 i 3 = s
    · rw [if_pos q]
      by_cases q2 : α 0 i 5 = 3 ∨ α 0 i 5 = 4
      · rw [if_pos q2, if_neg (show ¬ (α 0 i 3 = s ∧ ¬ (α 0 i 5 = 3 ∨ α 0 i 5 = 4)) from fun w => w.2 q2), if_neg (show ¬ f_blc α i (nI h) from fun w => w.1 q2), Nat.add_zero]
        exact RW.bl s hh f (i + 1) _ _ _ (by omega) hw
      · rw [if_neg q2, if_pos (show α 0 i 3 = s ∧ ¬ (α 0 i 5 = 3 ∨ α 0 i 5 = 4) from ⟨q, q2⟩)]
        have hcc : (if f_blc α i (nI h) then 1 else 0) = (if m_bv (α 0 i 2) (nI h) = α 0 i 2 then 0 else 1) := by
          by_cases w : m_bv (α 0 i 2) (nI h) = α 0 i 2
          · rw [if_neg (fun u : f_blc α i (nI h) => u.2 (pe.trans w)), if_pos w]
          · rw [if_pos (show f_blc α i (nI h) from ⟨q2, fun u => w (pe.symm.trans u)⟩), if_neg w]
        rw [hcc, p1, p2]
        refine RW.bl s hh f (i + 1) _ _ _ (by omega) ⟨?_, ?_, ?_, ?_, ?_, ?_, ?_, ?_⟩
        · intro j q hj hq
          have hq9 : q = 0 ∨ q = 1 ∨ q = 2 ∨ q = 3 ∨ q = 4 ∨ q = 5 ∨ q = 6 ∨ q = 7 ∨ q = 8 := by omega
          have := e j q hj hq
          by_cases hj2 : j = i
          · subst hj2
            rcases hq9 with rfl | rfl | rfl | rfl | rfl | rfl | rfl | rfl | rfl <;> simpa [x_up, f_bf] using this
          · rcases hq9 with rfl | rfl | rfl | rfl | rfl | rfl | rfl | rfl | rfl <;> simpa [x_up, f_bf, hj2] using this
        · intro j hj; have := z j hj; simpa [x_up] using this
        · intro j hj; have := t j hj; simpa [x_up] using this
        · intro j hj
          by_cases hj2 : j = i
          · subst hj2; exact ⟨tt - h, by omega, x_up_s⟩
          · have := ti j hj; simpa [x_up, hj2] using this
        · intro j hj; have := hb j hj; simpa [x_up] using this
        · rw [x_up_n (by omega), k3, m_cnt_cong nB (fun q _ => (x_up_n (by omega)))]
        · rw [m_cnt_cong nB (fun q _ => (x_up_n (by omega)))]; exact k4
        · intro j q hj hq
          rw [x_up_n (by omega), x_up_n (by omega)]; exact m j q hj hq
    · rw [if_neg q, if_neg (fun w => q w.1)]
      exact RW.bl s hh f (i + 1) _ _ _ (by omega) hw
theorem sp_bleach {ad : Nat → Nat → Nat} {nS nB nC nO N : Nat} {σ : x_St} {a b : Int32} {kk : Int32} {u : x_St} (hh : Rl σ nS nB nC nO N) (hq : q_L_bleach ad nS nB nC nO σ a b kk u) : x_M7 σ u ∧ ∀ (r : Int32) (v : x_St), q_X7_bleach u a b nB r v → v 7 0 0 = kk ∧ (kk = 0 → v 8 0 0 = r) ∧ Rl v nS nB nC nO (N + 1) := by
  have hS : σ 7 0 1 = σ 6 0 1 := hh.K.S7.trans hh.K.S.symm
  rcases hq with ⟨rfl, r, σ', ⟨hP, hr, rfl⟩, rfl⟩ | ⟨rfl, hP, hσ⟩ | ⟨rfl, hP, hσ⟩
  · obtain ⟨eb, gb⟩ := x_ixle hP.2.1 hP.2.2 (N := 9) rfl (by decide)
    have hm7 : x_M7 σ (f_bl a b nB 0 σ 0).2 := fun a' b' d' q => f_bl_k _ _ _ _ _ _ _ (by omega)
    refine ⟨hm7.o r, fun r' v hv => ?_⟩
    obtain ⟨hv1, -, -⟩ := hv
    rw [x_o8 (by decide), hm7 7 0 1 (by omega), hS] at hv1
    obtain ⟨e1, rfl⟩ := hv1 hP.1 hP.2
    have hw : RW σ (x_up (x_up (f_bl a b nB 0 σ 0).2 8 0 0 r) 7 0 0 0) nB (12 * nC) := by
      obtain ⟨e, z, t, i, hb, k3, k4, m⟩ := RW.of hh.B hh.M
      have ek : ∀ a' b' d', 36 ≤ a' → x_up (x_up (f_bl a b nB 0 σ 0).2 8 0 0 r) 7 0 0 0 a' b' d' = σ a' b' d' := fun a' b' d' q => by rw [x_up_n (by omega), x_up_n (by omega)]; exact hm7 a' b' d' (Or.inr q)
      have ec : ∀ x, m_cnt (x_up (x_up (f_bl a b nB 0 σ 0).2 8 0 0 r) 7 0 0 0) x nB = m_cnt σ x nB := fun x => m_cnt_cong nB (fun q _ => ek 46 0 q (by omega))
      exact ⟨fun j q hj hq => by rw [ek _ _ _ (by omega)]; exact e j q hj hq, z, t, i, hb, by rw [ec]; exact k3, by rw [ec]; exact k4, fun j q hj hq => by rw [ek _ _ _ (by omega)]; exact m j q hj hq⟩
    obtain ⟨w1, w2⟩ := RW.bl a gb nB 0 _ _ 0 (by omega) hw
    rw [← eb] at w1 w2
    refine ⟨?_, fun _ => ?_, ?_⟩
    · rw [m_bl_k _ _ _ _ _ _ _ (by omega), x_up_s]
    · rw [m_bl_k _ _ _ _ _ _ _ (by omega), x_t8, hr, e1, w1]
    · refine hh.bm (fun a' b' d' q1 q2 => ?_) (w2.to (fun a' b' d' q => ?_) ?_ (fun a' b' d' q => rfl))
      · rw [m_bl_k _ _ _ _ _ _ _ (by omega), x_up_n (by omega), x_up_n (by omega), f_bl_k _ _ _ _ _ _ _ (by omega)]
      · rw [m_bl_k _ _ _ _ _ _ _ (by omega), x_up_n (by omega), x_up_n (by omega)]
      · rw [m_bl_k _ _ _ _ _ _ _ (by omega), x_up_n (by omega), x_up_n (by omega)]
  · replace hσ := hσ.symm; subst hσ
    refine ⟨x_M7.rf σ, fun r' v hv => ?_⟩
    obtain ⟨-, hv2, -⟩ := hv
    have hn : ¬ (0 ≤ a ∧ a < σ 6 0 1) := by
      rcases hP with ⟨_, q⟩ | ⟨q, _⟩
      · exact q
      · exact absurd q (by decide)
    rw [hS] at hv2
    rw [hv2 hn]
    exact ⟨x_up_s, fun q => absurd q (by decide), hh.rd0 _⟩
  · replace hσ := hσ.symm; subst hσ
    refine ⟨x_M7.rf σ, fun r' v hv => ?_⟩
    obtain ⟨-, -, hv2⟩ := hv
    have hn : (0 ≤ a ∧ a < σ 6 0 1) ∧ ¬ (0 ≤ b ∧ b ≤ 9) := by
      rcases hP with ⟨q, _⟩ | ⟨_, q⟩
      · exact absurd q (by decide)
      · exact q
    rw [hS] at hv2
    rw [hv2 hn.1 hn.2]
    exact ⟨x_up_s, fun q => absurd q (by decide), hh.rd0 _⟩
