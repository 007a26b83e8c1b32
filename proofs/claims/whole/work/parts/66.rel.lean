/-! what binds the class's side of the world to the reference's, between two calls of the law -/
/-- the counts -/
def RK (σ : x_St) (nS nB nC nO : Nat) : Prop := (σ 6 0 1 = nI nS) ∧ (nS ≤ 30) ∧ (σ 7 0 1 = nI nS) ∧ (σ 6 0 3 = nI nB) ∧ (nB ≤ 400) ∧ (σ 7 0 2 = nI nB) ∧ (σ 6 0 6 = nI nC) ∧ (nC ≤ 30) ∧ (σ 7 0 3 = nI nC) ∧ (σ 6 0 8 = nI nO) ∧ (nO ≤ 30) ∧ (σ 7 0 4 = nI nO) ∧ (σ 7 0 5 = σ 6 0 13)
theorem RK.S {σ : x_St} {nS nB nC nO : Nat} (h : RK σ nS nB nC nO) : σ 6 0 1 = nI nS := h.1
theorem RK.S0 {σ : x_St} {nS nB nC nO : Nat} (h : RK σ nS nB nC nO) : nS ≤ 30 := h.2.1
theorem RK.S7 {σ : x_St} {nS nB nC nO : Nat} (h : RK σ nS nB nC nO) : σ 7 0 1 = nI nS := h.2.2.1
theorem RK.B {σ : x_St} {nS nB nC nO : Nat} (h : RK σ nS nB nC nO) : σ 6 0 3 = nI nB := h.2.2.2.1
theorem RK.B0 {σ : x_St} {nS nB nC nO : Nat} (h : RK σ nS nB nC nO) : nB ≤ 400 := h.2.2.2.2.1
theorem RK.B7 {σ : x_St} {nS nB nC nO : Nat} (h : RK σ nS nB nC nO) : σ 7 0 2 = nI nB := h.2.2.2.2.2.1
theorem RK.C {σ : x_St} {nS nB nC nO : Nat} (h : RK σ nS nB nC nO) : σ 6 0 6 = nI nC := h.2.2.2.2.2.2.1
theorem RK.C0 {σ : x_St} {nS nB nC nO : Nat} (h : RK σ nS nB nC nO) : nC ≤ 30 := h.2.2.2.2.2.2.2.1
theorem RK.C7 {σ : x_St} {nS nB nC nO : Nat} (h : RK σ nS nB nC nO) : σ 7 0 3 = nI nC := h.2.2.2.2.2.2.2.2.1
theorem RK.O {σ : x_St} {nS nB nC nO : Nat} (h : RK σ nS nB nC nO) : σ 6 0 8 = nI nO := h.2.2.2.2.2.2.2.2.2.1
theorem RK.O0 {σ : x_St} {nS nB nC nO : Nat} (h : RK σ nS nB nC nO) : nO ≤ 30 := h.2.2.2.2.2.2.2.2.2.2.1
theorem RK.O7 {σ : x_St} {nS nB nC nO : Nat} (h : RK σ nS nB nC nO) : σ 7 0 4 = nI nO := h.2.2.2.2.2.2.2.2.2.2.2.1
theorem RK.P {σ : x_St} {nS nB nC nO : Nat} (h : RK σ nS nB nC nO) : σ 7 0 5 = σ 6 0 13 := h.2.2.2.2.2.2.2.2.2.2.2.2
/-- shells, list, plans -/
def RS (σ : x_St) (nS N : Nat) : Prop := (∀ i, i < nS → σ 36 0 i = σ 5 i 0) ∧ (∀ i, i < nS → σ 37 0 i = σ 5 i 1) ∧ (∀ i, i < nS → σ 38 0 i = σ 5 i 2) ∧ (∀ i, i < nS → σ 40 0 i = σ 5 i 4) ∧ (∀ i, nS ≤ i → i < 30 → σ 40 0 i = 0) ∧ (∀ i, i < nS → ∃ t, t ≤ 9 ∧ σ 5 i 2 = nI t) ∧ (∀ i, i < nS → ∃ R, 1 ≤ R ∧ R ≤ 6 ∧ σ 5 i 0 = nI R) ∧ (∀ i, i < nS → ∃ C, 1 ≤ C ∧ C ≤ 6 ∧ σ 5 i 1 = nI C) ∧ (∀ i y x, i < nS → y < x_c (σ 5 i 0) → x < x_c (σ 5 i 1) → (∃ t, t ≤ 9 ∧ σ 15 i (6 * y + x) = nI t) ∧ σ 39 0 (36 * i + x_c (σ 5 i 1) * y + x) = σ 15 i (6 * y + x)) ∧ (∀ i y x, i < nS → y < 6 → x < 6 → ¬ (y < x_c (σ 5 i 0) ∧ x < x_c (σ 5 i 1)) → σ 15 i (6 * y + x) = 0) ∧ (∀ d, d < 40 → σ 41 0 d = σ 11 0 d) ∧ (f_wl σ) ∧ (∃ q, q ≤ N ∧ σ 2 0 1 = nI q ∧ ∀ i, i < nS → σ 5 i 9 = -1 ∨ ∃ a, a ≤ q ∧ σ 5 i 9 = nI a) ∧ (∀ i, i < nS → σ 5 i 9 = σ 2 0 1 → f_cu σ i (x_c (σ 5 i 0)) (x_c (σ 5 i 1)))
theorem RS.e0 {σ : x_St} {nS N : Nat} (h : RS σ nS N) : ∀ i, i < nS → σ 36 0 i = σ 5 i 0 := h.1
theorem RS.e1 {σ : x_St} {nS N : Nat} (h : RS σ nS N) : ∀ i, i < nS → σ 37 0 i = σ 5 i 1 := h.2.1
theorem RS.e2 {σ : x_St} {nS N : Nat} (h : RS σ nS N) : ∀ i, i < nS → σ 38 0 i = σ 5 i 2 := h.2.2.1
theorem RS.e4 {σ : x_St} {nS N : Nat} (h : RS σ nS N) : ∀ i, i < nS → σ 40 0 i = σ 5 i 4 := h.2.2.2.1
theorem RS.z4 {σ : x_St} {nS N : Nat} (h : RS σ nS N) : ∀ i, nS ≤ i → i < 30 → σ 40 0 i = 0 := h.2.2.2.2.1
theorem RS.i2 {σ : x_St} {nS N : Nat} (h : RS σ nS N) : ∀ i, i < nS → ∃ t, t ≤ 9 ∧ σ 5 i 2 = nI t := h.2.2.2.2.2.1
theorem RS.r {σ : x_St} {nS N : Nat} (h : RS σ nS N) : ∀ i, i < nS → ∃ R, 1 ≤ R ∧ R ≤ 6 ∧ σ 5 i 0 = nI R := h.2.2.2.2.2.2.1
theorem RS.c {σ : x_St} {nS N : Nat} (h : RS σ nS N) : ∀ i, i < nS → ∃ C, 1 ≤ C ∧ C ≤ 6 ∧ σ 5 i 1 = nI C := h.2.2.2.2.2.2.2.1
theorem RS.g {σ : x_St} {nS N : Nat} (h : RS σ nS N) : ∀ i y x, i < nS → y < x_c (σ 5 i 0) → x < x_c (σ 5 i 1) → (∃ t, t ≤ 9 ∧ σ 15 i (6 * y + x) = nI t) ∧ σ 39 0 (36 * i + x_c (σ 5 i 1) * y + x) = σ 15 i (6 * y + x) := h.2.2.2.2.2.2.2.2.1
theorem RS.g0 {σ : x_St} {nS N : Nat} (h : RS σ nS N) : ∀ i y x, i < nS → y < 6 → x < 6 → ¬ (y < x_c (σ 5 i 0) ∧ x < x_c (σ 5 i 1)) → σ 15 i (6 * y + x) = 0 := h.2.2.2.2.2.2.2.2.2.1
theorem RS.w {σ : x_St} {nS N : Nat} (h : RS σ nS N) : ∀ d, d < 40 → σ 41 0 d = σ 11 0 d := h.2.2.2.2.2.2.2.2.2.2.1
theorem RS.wk {σ : x_St} {nS N : Nat} (h : RS σ nS N) : f_wl σ := h.2.2.2.2.2.2.2.2.2.2.2.1
theorem RS.l {σ : x_St} {nS N : Nat} (h : RS σ nS N) : ∃ q, q ≤ N ∧ σ 2 0 1 = nI q ∧ ∀ i, i < nS → σ 5 i 9 = -1 ∨ ∃ a, a ≤ q ∧ σ 5 i 9 = nI a := h.2.2.2.2.2.2.2.2.2.2.2.2.1
theorem RS.p {σ : x_St} {nS N : Nat} (h : RS σ nS N) : ∀ i, i < nS → σ 5 i 9 = σ 2 0 1 → f_cu σ i (x_c (σ 5 i 0)) (x_c (σ 5 i 1)) := h.2.2.2.2.2.2.2.2.2.2.2.2.2
/-- buttons -/
def RB (σ : x_St) (nB nC : Nat) : Prop := (∀ j q, j < nB → q ≤ 8 → σ (42 + q) 0 j = σ 0 j (f_bf q)) ∧ (∀ j, j < nB → ∃ t, 1 ≤ t ∧ t ≤ 3 ∧ σ 0 j 0 = nI t) ∧ (∀ j, j < nB → ∃ t, 1 ≤ t ∧ t ≤ 9 ∧ σ 0 j 1 = nI t) ∧ (∀ j, j < nB → ∃ t, t ≤ 9 ∧ σ 0 j 2 = nI t) ∧ (∀ j, j < nB → σ 0 j 5 = 0 → σ 0 j 6 = 0) ∧ (σ 6 0 12 = nI (m_cnt σ 3 nB)) ∧ (m_cnt σ 4 nB = 12 * nC)
theorem RB.e {σ : x_St} {nB nC : Nat} (h : RB σ nB nC) : ∀ j q, j < nB → q ≤ 8 → σ (42 + q) 0 j = σ 0 j (f_bf q) := h.1
theorem RB.z {σ : x_St} {nB nC : Nat} (h : RB σ nB nC) : ∀ j, j < nB → ∃ t, 1 ≤ t ∧ t ≤ 3 ∧ σ 0 j 0 = nI t := h.2.1
theorem RB.t {σ : x_St} {nB nC : Nat} (h : RB σ nB nC) : ∀ j, j < nB → ∃ t, 1 ≤ t ∧ t ≤ 9 ∧ σ 0 j 1 = nI t := h.2.2.1
theorem RB.i {σ : x_St} {nB nC : Nat} (h : RB σ nB nC) : ∀ j, j < nB → ∃ t, t ≤ 9 ∧ σ 0 j 2 = nI t := h.2.2.2.1
theorem RB.h {σ : x_St} {nB nC : Nat} (h : RB σ nB nC) : ∀ j, j < nB → σ 0 j 5 = 0 → σ 0 j 6 = 0 := h.2.2.2.2.1
theorem RB.k3 {σ : x_St} {nB nC : Nat} (h : RB σ nB nC) : σ 6 0 12 = nI (m_cnt σ 3 nB) := h.2.2.2.2.2.1
theorem RB.k4 {σ : x_St} {nB nC : Nat} (h : RB σ nB nC) : m_cnt σ 4 nB = 12 * nC := h.2.2.2.2.2.2
/-- machines -/
def RM (σ : x_St) : Prop := ∀ j q, j < 6 → q < 4 → σ (51 + q) 0 j = σ 3 j q
/-- cards -/
def RC (σ : x_St) (nB nC : Nat) : Prop := (∀ c, c < nC → σ 55 0 c = σ 1 c 0 ∧ σ 56 0 c = σ 1 c 1 ∧ σ 57 0 c = σ 1 c 2 ∧ σ 58 0 c = σ 1 c 6) ∧ (∀ c k, c < nC → k < 12 → σ 59 0 (12 * c + k) = σ 10 c k ∧ ∃ b, b < nB ∧ σ 10 c k = nI b) ∧ (∀ c, c < nC → σ 1 c 4 = m_ext σ 3 c 12 ∧ σ 1 c 5 = m_ext σ 4 c 12)
theorem RC.e {σ : x_St} {nB nC : Nat} (h : RC σ nB nC) : ∀ c, c < nC → σ 55 0 c = σ 1 c 0 ∧ σ 56 0 c = σ 1 c 1 ∧ σ 57 0 c = σ 1 c 2 ∧ σ 58 0 c = σ 1 c 6 := h.1
theorem RC.o {σ : x_St} {nB nC : Nat} (h : RC σ nB nC) : ∀ c k, c < nC → k < 12 → σ 59 0 (12 * c + k) = σ 10 c k ∧ ∃ b, b < nB ∧ σ 10 c k = nI b := h.2.1
theorem RC.x {σ : x_St} {nB nC : Nat} (h : RC σ nB nC) : ∀ c, c < nC → σ 1 c 4 = m_ext σ 3 c 12 ∧ σ 1 c 5 = m_ext σ 4 c 12 := h.2.2
/-- orders -/
def RO (σ : x_St) (nO : Nat) : Prop := (∀ o q, o < nO → q < 8 → σ (60 + q) 0 o = σ 4 o q) ∧ (∀ o, o < nO → ∃ t, t ≤ 9 ∧ σ 4 o 0 = nI t) ∧ (∀ o, o < nO → ∃ t, t ≤ 999 ∧ σ 4 o 5 = nI t) ∧ (∀ q, q < nO → σ 18 0 q = nI (x_c (σ 18 0 q)) ∧ x_c (σ 18 0 q) < nO) ∧ (∀ o, o < nO → ∃ q, q < nO ∧ x_c (σ 18 0 q) = o) ∧ (∀ p q, p < q → q < nO → x_c (σ 4 (x_c (σ 18 0 p)) 5) < x_c (σ 4 (x_c (σ 18 0 q)) 5) ∨ (x_c (σ 4 (x_c (σ 18 0 p)) 5) = x_c (σ 4 (x_c (σ 18 0 q)) 5) ∧ x_c (σ 18 0 p) < x_c (σ 18 0 q)))
theorem RO.e {σ : x_St} {nO : Nat} (h : RO σ nO) : ∀ o q, o < nO → q < 8 → σ (60 + q) 0 o = σ 4 o q := h.1
theorem RO.m {σ : x_St} {nO : Nat} (h : RO σ nO) : ∀ o, o < nO → ∃ t, t ≤ 9 ∧ σ 4 o 0 = nI t := h.2.1
theorem RO.d {σ : x_St} {nO : Nat} (h : RO σ nO) : ∀ o, o < nO → ∃ t, t ≤ 999 ∧ σ 4 o 5 = nI t := h.2.2.1
theorem RO.b {σ : x_St} {nO : Nat} (h : RO σ nO) : ∀ q, q < nO → σ 18 0 q = nI (x_c (σ 18 0 q)) ∧ x_c (σ 18 0 q) < nO := h.2.2.2.1
theorem RO.u {σ : x_St} {nO : Nat} (h : RO σ nO) : ∀ o, o < nO → ∃ q, q < nO ∧ x_c (σ 18 0 q) = o := h.2.2.2.2.1
theorem RO.s {σ : x_St} {nO : Nat} (h : RO σ nO) : ∀ p q, p < q → q < nO → x_c (σ 4 (x_c (σ 18 0 p)) 5) < x_c (σ 4 (x_c (σ 18 0 q)) 5) ∨ (x_c (σ 4 (x_c (σ 18 0 p)) 5) = x_c (σ 4 (x_c (σ 18 0 q)) 5) ∧ x_c (σ 18 0 p) < x_c (σ 18 0 q)) := h.2.2.2.2.2
def Rl (σ : x_St) (nS nB nC nO N : Nat) : Prop := (RK σ nS nB nC nO) ∧ (RS σ nS N) ∧ (RB σ nB nC) ∧ (RM σ) ∧ (RC σ nB nC) ∧ (RO σ nO)
theorem Rl.K {σ : x_St} {nS nB nC nO N : Nat} (h : Rl σ nS nB nC nO N) : RK σ nS nB nC nO := h.1
theorem Rl.S {σ : x_St} {nS nB nC nO N : Nat} (h : Rl σ nS nB nC nO N) : RS σ nS N := h.2.1
theorem Rl.B {σ : x_St} {nS nB nC nO N : Nat} (h : Rl σ nS nB nC nO N) : RB σ nB nC := h.2.2.1
theorem Rl.M {σ : x_St} {nS nB nC nO N : Nat} (h : Rl σ nS nB nC nO N) : RM σ := h.2.2.2.1
theorem Rl.C {σ : x_St} {nS nB nC nO N : Nat} (h : Rl σ nS nB nC nO N) : RC σ nB nC := h.2.2.2.2.1
theorem Rl.O {σ : x_St} {nS nB nC nO N : Nat} (h : Rl σ nS nB nC nO N) : RO σ nO := h.2.2.2.2.2
/-- what the reference's own contracts ask for -/
def Rm (σ : x_St) (nS nB nC nO : Nat) : Prop := (σ 7 0 1 = nI nS) ∧ (σ 7 0 2 = nI nB) ∧ (σ 7 0 3 = nI nC) ∧ (σ 7 0 4 = nI nO) ∧ (∀ i, i < nS → m_fk σ i) ∧ (∀ q, q < nB → ¬ σ 43 0 q = 0) ∧ (∀ q, q < 12 * nC → σ 59 0 q = nI (x_c (σ 59 0 q)) ∧ x_c (σ 59 0 q) < 400) ∧ (∀ q, q < nO → σ 60 0 q = nI (x_c (σ 60 0 q)) ∧ x_c (σ 60 0 q) ≤ 9)
theorem Rm.S {σ : x_St} {nS nB nC nO : Nat} (h : Rm σ nS nB nC nO) : σ 7 0 1 = nI nS := h.1
theorem Rm.B {σ : x_St} {nS nB nC nO : Nat} (h : Rm σ nS nB nC nO) : σ 7 0 2 = nI nB := h.2.1
theorem Rm.C {σ : x_St} {nS nB nC nO : Nat} (h : Rm σ nS nB nC nO) : σ 7 0 3 = nI nC := h.2.2.1
theorem Rm.O {σ : x_St} {nS nB nC nO : Nat} (h : Rm σ nS nB nC nO) : σ 7 0 4 = nI nO := h.2.2.2.1
theorem Rm.ok {σ : x_St} {nS nB nC nO : Nat} (h : Rm σ nS nB nC nO) : ∀ i, i < nS → m_fk σ i := h.2.2.2.2.1
theorem Rm.th {σ : x_St} {nS nB nC nO : Nat} (h : Rm σ nS nB nC nO) : ∀ q, q < nB → ¬ σ 43 0 q = 0 := h.2.2.2.2.2.1
theorem Rm.on {σ : x_St} {nS nB nC nO : Nat} (h : Rm σ nS nB nC nO) : ∀ q, q < 12 * nC → σ 59 0 q = nI (x_c (σ 59 0 q)) ∧ x_c (σ 59 0 q) < 400 := h.2.2.2.2.2.2.1
theorem Rm.mn {σ : x_St} {nS nB nC nO : Nat} (h : Rm σ nS nB nC nO) : ∀ q, q < nO → σ 60 0 q = nI (x_c (σ 60 0 q)) ∧ x_c (σ 60 0 q) ≤ 9 := h.2.2.2.2.2.2.2
/-- the same at the kinds of the list -/
def x_K (ks : List Nat) (σ σ' : x_St) : Prop := ∀ k, k ∈ ks → ∀ i j : Nat, σ' k i j = σ k i j
/-- the reference's side is as it was -/
def x_M7 (σ σ' : x_St) : Prop := ∀ a b d : Nat, a = 7 ∨ 36 ≤ a → σ' a b d = σ a b d
theorem Rm.mv {σ σ' : x_St} {nS nB nC nO : Nat} (h : Rm σ nS nB nC nO) (hk : x_M7 σ σ') : Rm σ' nS nB nC nO := by
  refine ⟨?_, ?_, ?_, ?_, ?_, ?_, ?_, ?_⟩
  · rw [hk 7 0 1 (Or.inl rfl)]; exact h.S
  · rw [hk 7 0 2 (Or.inl rfl)]; exact h.B
  · rw [hk 7 0 3 (Or.inl rfl)]; exact h.C
  · rw [hk 7 0 4 (Or.inl rfl)]; exact h.O
  · exact fun i hi => m_fk_cong (fun k b d q => hk k b d (Or.inr (by omega))) (h.ok i hi)
  · intro q hq; rw [hk 43 0 q (Or.inr (by omega))]; exact h.th q hq
  · intro q hq; rw [hk 59 0 q (Or.inr (by omega))]; exact h.on q hq
  · intro q hq; rw [hk 60 0 q (Or.inr (by omega))]; exact h.mn q hq
theorem x_hm {nS nB nC nO sS sB sC sO lS lC : Nat} : ∀ k, 36 ≤ k → k < 70 → 0 < x_n nS nB nC nO k ∧ 0 < x_s sS sB sC sO lS lC (100 + k) := by
  intro k h1 h2
  have e1 : x_n nS nB nC nO k = 1 := by
    obtain ⟨j, rfl⟩ : ∃ j, k = j + 36 := ⟨k - 36, by omega⟩
    show (if j + 36 < 70 then 1 else 0) = 1
    rw [if_pos h2]
  have e2 : x_s sS sB sC sO lS lC (100 + k) = 1 := by
    obtain ⟨j, rfl⟩ : ∃ j, k = j + 36 := ⟨k - 36, by omega⟩
    rw [show 100 + (j + 36) = j + 136 by omega]
    show (if 136 ≤ j + 136 ∧ j + 136 < 170 then 1 else 0) = 1
    rw [if_pos ⟨by omega, by omega⟩]
  rw [e1, e2]
  exact ⟨Nat.zero_lt_one, Nat.zero_lt_one⟩
theorem Rl.sk {σ : x_St} {nS nB nC nO N : Nat} (h : Rl σ nS nB nC nO N) : ∀ i, i < nS → f_sk σ i := by
  intro i hi
  obtain ⟨R, _, hR2, hR⟩ := h.S.r i hi
  obtain ⟨C, _, hC2, hC⟩ := h.S.c i hi
  have e1 : x_c (σ 5 i 0) = R := by rw [hR, x_cn (by omega)]
  have e2 : x_c (σ 5 i 1) = C := by rw [hC, x_cn (by omega)]
  refine ⟨by rw [e1]; exact hR, by omega, by rw [e2]; exact hC, by omega, fun q hq => ?_⟩
  have e3 : 6 * (q / 6) + q % 6 = q := by omega
  by_cases hh : q / 6 < x_c (σ 5 i 0) ∧ q % 6 < x_c (σ 5 i 1)
  · have := (h.S.g i (q / 6) (q % 6) hi hh.1 hh.2).1
    rw [e3] at this
    exact this
  · have := h.S.g0 i (q / 6) (q % 6) hi (by omega) (by omega) hh
    rw [e3] at this
    exact ⟨0, by decide, this⟩
theorem Rl.cd {σ : x_St} {nS nB nC nO N : Nat} (h : Rl σ nS nB nC nO N) : ∀ q, q < nO → σ 4 q 0 = nI (x_c (σ 4 q 0)) ∧ x_c (σ 4 q 0) ≤ 9 := by
  intro q hq
  obtain ⟨t, h1, h2⟩ := h.O.m q hq
  rw [h2, x_cn (by omega)]
  exact ⟨rfl, h1⟩
