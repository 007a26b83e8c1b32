/-! cards and orders, the class's side of α beside the reference's of β -/
def RD (α β : x_St) (nC nO : Nat) : Prop := (∀ c, c < nC → β 55 0 c = α 1 c 0 ∧ β 56 0 c = α 1 c 1 ∧ β 57 0 c = α 1 c 2 ∧ β 58 0 c = α 1 c 6) ∧ (∀ o q, o < nO → q < 8 → β (60 + q) 0 o = α 4 o q) ∧ ∀ o, o < nO → ∃ t, t ≤ 9 ∧ α 4 o 0 = nI t
theorem RD.tak {α β : x_St} {nC nO c o : Nat} (h : RD α β nC nO) (hc : c < nC) (ho : o < nO) : f_tak α o c ↔ m_for β c o := by
  obtain ⟨c0, c1, c2, c6⟩ := h.1 c hc
  unfold f_tak m_for
  rw [c0, c1, c2, c6, show β 61 0 o = α 4 o 1 from h.2.1 o 1 ho (by decide), show β 62 0 o = α 4 o 2 from h.2.1 o 2 ho (by decide), show β 63 0 o = α 4 o 3 from h.2.1 o 3 ho (by decide), show β 64 0 o = α 4 o 4 from h.2.1 o 4 ho (by decide)]
theorem RD.nr {α β : x_St} {nC nO o : Nat} (h : RD α β nC nO) (ho : o < nO) : ∀ f c, c + f ≤ nC → f_nr α o f c = m_nr β o f c ∧ f_nr α o f c ≤ f
  | 0, _, _ => ⟨rfl, Nat.le_refl _⟩
  | f + 1, c, hc => by
    obtain ⟨i1, i2⟩ := RD.nr h ho f (c + 1) (by omega)
    have ht := h.tak (show c < nC by omega) ho
    rw [f_nr, m_nr, i1]
    rw [i1] at i2
    by_cases q : f_tak α o c
    · rw [if_pos q, if_pos (ht.mp q)]; exact ⟨rfl, by omega⟩
    · rw [if_neg q, if_neg (fun w => q (ht.mpr w))]; exact ⟨rfl, by omega⟩
theorem RD.gv {nC nO o : Nat} (ho : o < nO) : ∀ (f c r : Nat) (α β : x_St), RD α β nC nO → c + f ≤ nC → RD (f_gv o (nI o) f c r α) (m_gv o f c r β) nC nO
  | 0, _, _, _, _, h, _ => h
  | f + 1, c, r, α, β, h, hc => by
    rw [f_gv, m_gv]
    by_cases q0 : r = 0
    · rw [if_pos q0, if_pos q0]; exact h
    · rw [if_neg q0, if_neg q0]
      have ht := h.tak (show c < nC by omega) ho
      by_cases q : f_tak α o c
      · rw [if_pos q, if_pos (ht.mp q)]
        refine RD.gv ho f (c + 1) (r - 1) _ _ ⟨fun c' hc' => ?_, fun o' q' ho' hq' => ?_, fun o' ho' => ?_⟩ (by omega)
        · rw [x_up_n (by omega), x_up_n (by omega), x_up_n (by omega), x_up_n (by omega), x_up_n (by omega), x_up_n (by omega)]
          obtain ⟨c0, c1, c2, c6⟩ := h.1 c' hc'
          refine ⟨c0, c1, c2, ?_⟩
          by_cases e : c' = c
          · subst e; rw [x_up_s, x_up_s]
          · rw [x_up_n (by omega), x_up_n (by omega)]; exact c6
        · rw [x_up_n (by omega), x_up_n (by omega)]; exact h.2.1 o' q' ho' hq'
        · rw [x_up_n (by omega)]; exact h.2.2 o' ho'
      · rw [if_neg q, if_neg (fun w => q (ht.mpr w))]
        exact RD.gv ho f (c + 1) r α β h (by omega)
theorem m_gv_kp (o : Nat) : ∀ (f c r : Nat) (β : x_St) (a b d : Nat), ¬ a = 58 → m_gv o f c r β a b d = β a b d
  | 0, _, _, _, _, _, _, _ => rfl
  | f + 1, c, r, β, a, b, d, h => by
    rw [m_gv]
    split
    · rfl
    · split
      · rw [m_gv_kp o f _ _ _ a b d h, x_up_n (by omega)]
      · exact m_gv_kp o f _ _ _ a b d h
/-- one order in its turn -/
def fS1 (a : Int32) (nC o : Nat) (α : x_St) : Int32 × x_St := if α 4 o 7 = -1 ∧ ¬ nI (f_nr α o nC 0) < α 4 o 0 then (α 4 o 0 * (if α 4 o 5 < a then α 4 o 6 / 2 else α 4 o 6), x_up (f_gv o (nI o) nC 0 (x_c (α 4 o 0)) α) 4 o 7 a) else (0, α)
theorem f_se_1 {a : Int32} {nC f k : Nat} {α : x_St} {s : Int32} (hb : α 18 0 k = nI (x_c (α 18 0 k))) : f_se a nC (f + 1) k α s = f_se a nC f (k + 1) (fS1 a nC (x_c (α 18 0 k)) α).2 (s + (fS1 a nC (x_c (α 18 0 k)) α).1) := by
  rw [f_se, fS1]
  by_cases q : α 4 (x_c (α 18 0 k)) 7 = -1 ∧ ¬ nI (f_nr α (x_c (α 18 0 k)) nC 0) < α 4 (x_c (α 18 0 k)) 0
  · rw [if_pos q, if_pos q]
  · rw [if_neg q, if_neg q, Int32.add_zero]
theorem fS1_k {a : Int32} {nC o : Nat} {α : x_St} {x y z : Nat} (h1 : ¬ (x = 1 ∧ z = 6)) (h2 : ¬ (x = 4 ∧ z = 7)) : (fS1 a nC o α).2 x y z = α x y z := by
  rw [fS1]
  split
  · dsimp only
    rw [x_up_n (by omega), f_gv_k _ _ _ _ _ _ _ _ _ h1]
  · rfl
theorem m_snd_kp {o w nC : Nat} {a : Int32} {β : x_St} {x y z : Nat} (h : ¬ (x = 58 ∨ x = 67)) : (m_snd β o w nC a).2 x y z = β x y z := by
  rw [m_snd]
  split
  · rfl
  · dsimp only
    rw [x_up_n (by omega), m_gv_kp _ _ _ _ _ _ _ _ (by omega)]
theorem RD.s1 {α β : x_St} {nC nO o : Nat} {a : Int32} (h : RD α β nC nO) (ho : o < nO) (hC : nC ≤ 30) :
    (β 67 0 o = -1 → (fS1 a nC o α).1 = (m_snd β o (x_c (β 60 0 o)) nC a).1 ∧ RD (fS1 a nC o α).2 (m_snd β o (x_c (β 60 0 o)) nC a).2 nC nO) ∧ (¬ β 67 0 o = -1 → fS1 a nC o α = (0, α)) := by
  have e67 : β 67 0 o = α 4 o 7 := h.2.1 o 7 ho (by decide)
  have e60 : β 60 0 o = α 4 o 0 := h.2.1 o 0 ho (by decide)
  have e65 : β 65 0 o = α 4 o 5 := h.2.1 o 5 ho (by decide)
  have e66 : β 66 0 o = α 4 o 6 := h.2.1 o 6 ho (by decide)
  obtain ⟨t, t9, et⟩ := h.2.2 o ho
  obtain ⟨n1, n2⟩ := h.nr ho nC 0 (by omega)
  refine ⟨fun q => ?_, fun q => by rw [fS1, if_neg (fun w => q (e67.trans w.1))]⟩
  have q7 : α 4 o 7 = -1 := e67.symm.trans q
  have hlt : nI (f_nr α o nC 0) < α 4 o 0 ↔ m_nr β o nC 0 < x_c (β 60 0 o) := by
    rw [e60, et, x_cn (by omega), ← n1]
    exact nI_ltI (by omega) (by omega)
  rw [fS1, m_snd]
  by_cases w : m_nr β o nC 0 < x_c (β 60 0 o)
  · rw [if_neg (fun u => u.2 (hlt.mpr w)), if_pos w]
    exact ⟨rfl, h⟩
  · rw [if_pos ⟨q7, fun u => w (hlt.mp u)⟩, if_neg w]
    refine ⟨?_, ?_⟩
    · dsimp only
      rw [e65, e66, e60, et, x_cn (by omega)]
    · dsimp only
      have hg := RD.gv ho nC 0 (x_c (α 4 o 0)) α β h (by omega)
      rw [e60]
      refine ⟨fun c hc => ?_, fun o' q' ho' hq' => ?_, fun o' ho' => ?_⟩
      · rw [x_up_n (by omega), x_up_n (by omega), x_up_n (by omega), x_up_n (by omega), x_up_n (by omega), x_up_n (by omega), x_up_n (by omega), x_up_n (by omega)]
        exact hg.1 c hc
      · by_cases e : o' = o ∧ q' = 7
        · obtain ⟨rfl, rfl⟩ := e
          rw [x_up_s]
          exact x_up_s.symm
        · rw [x_up_n (by omega), x_up_n (by omega)]
          exact hg.2.1 o' q' ho' hq'
      · rw [x_up_n (by omega)]
        exact hg.2.2 o' ho'
/-- the queue, before any call of it -/
def RQ (bd dy : Nat → Nat) (nO : Nat) : Prop := (∀ q, q < nO → bd q < nO) ∧ (∀ o, o < nO → ∃ q, q < nO ∧ bd q = o) ∧ (∀ p q, p < q → q < nO → dy (bd p) < dy (bd q) ∨ (dy (bd p) = dy (bd q) ∧ bd p < bd q)) ∧ ∀ o, o < nO → dy o ≤ 999
def RQk (bd dy : Nat → Nat) (nO d o k : Nat) : Prop := k ≤ nO ∧ ∀ q, q < nO → (q < k ↔ (dy (bd q) < d ∨ (dy (bd q) = d ∧ bd q < o)))
/-- both sides stand alike, the queue as it was -/
def RE (bd dy : Nat → Nat) (nC nO : Nat) (α β : x_St) : Prop := RD α β nC nO ∧ (∀ q, q < nO → α 18 0 q = nI (bd q)) ∧ ∀ o, o < nO → β 65 0 o = nI (dy o)
theorem RE.in {bd dy : Nat → Nat} {nC nO d : Nat} {a : Int32} (hQ : RQ bd dy nO) (hC : nC ≤ 30) (hO : nO ≤ 30) (hd : d ≤ 999) : ∀ (f o k : Nat) (α β : x_St) (s : Int32), o + f = nO → RQk bd dy nO d o k → RE bd dy nC nO α β →
    ∃ k' α', RQk bd dy nO (d + 1) 0 k' ∧ RE bd dy nC nO α' (m_si a d nC f o β s).2 ∧ f_se a nC (nO - k) k α s = f_se a nC (nO - k') k' α' (m_si a d nC f o β s).1
  | 0, o, k, α, β, s, ho, hk, hE => by
    refine ⟨k, α, ⟨hk.1, fun q hq => ?_⟩, hE, rfl⟩
    rw [hk.2 q hq]
    have := hQ.1 q hq
    omega
  | f + 1, o, k, α, β, s, ho, hk, hE => by
    obtain ⟨hD, h18, h65⟩ := id hE
    have hon : o < nO := by omega
    have hd9 := hQ.2.2.2 o hon
    have hday : β 65 0 o = nI d ↔ dy o = d := by rw [h65 o hon]; exact nI_eq (by omega) (by omega)
    rw [m_si]
    by_cases q : dy o = d
    · -- it is the next one of the queue
      obtain ⟨q0, hq0, eq0⟩ := hQ.2.1 o hon
      have hk0 : k = q0 := by
        have h1 : ¬ q0 < k := fun w => by have := (hk.2 q0 hq0).mp w; rw [eq0] at this; omega
        have h2 : ¬ k < q0 := fun w => by
          have h3 := hQ.2.2.1 k q0 w hq0
          rw [eq0, q] at h3
          have := (hk.2 k (by omega)).mpr (by omega)
          omega
        omega
      subst hk0
      have hbk : x_c (α 18 0 k) = o := by rw [h18 k hq0, x_cn (by have := hQ.1 k hq0; omega), eq0]
      have hstep : f_se a nC (nO - k) k α s = f_se a nC (nO - (k + 1)) (k + 1) (fS1 a nC o α).2 (s + (fS1 a nC o α).1) := by
        rw [show nO - k = (nO - (k + 1)) + 1 by omega, f_se_1 (by rw [hbk, h18 k hq0, eq0]), hbk]
      obtain ⟨hs1, hs2⟩ := hD.s1 (a := a) hon hC
      have hk1 : RQk bd dy nO d (o + 1) (k + 1) := by
        refine ⟨by omega, fun p hp => ?_⟩
        have h1 := hk.2 p hp
        rcases Nat.lt_trichotomy p k with w | w | w
        · have := h1.mp w; constructor <;> intro <;> omega
        · subst w; rw [eq0]; constructor <;> intro <;> omega
        · have h3 := hQ.2.2.1 k p w hp
          rw [eq0, q] at h3
          constructor <;> intro <;> omega
      have hk18 : ∀ q, q < nO → (fS1 a nC o α).2 18 0 q = nI (bd q) := fun q hq => by rw [fS1_k (by omega) (by omega)]; exact h18 q hq
      by_cases q7 : β 67 0 o = -1
      · rw [if_pos ⟨hday.mpr q, q7⟩, hstep]
        obtain ⟨e1, hD2⟩ := hs1 q7
        rw [e1]
        exact RE.in hQ hC hO hd f (o + 1) (k + 1) _ _ _ (by omega) hk1 ⟨hD2, hk18, fun o' ho' => by rw [m_snd_kp (by omega)]; exact h65 o' ho'⟩
      · rw [if_neg (fun w => q7 w.2), hstep]
        have e1 := hs2 q7
        rw [e1, Int32.add_zero]
        exact RE.in hQ hC hO hd f (o + 1) (k + 1) _ _ _ (by omega) hk1 hE
    · rw [if_neg (fun w => q (hday.mp w.1))]
      refine RE.in hQ hC hO hd f (o + 1) k α β s (by omega) ⟨hk.1, fun p hp => ?_⟩ hE
      rw [hk.2 p hp]
      have : dy (bd p) = d → ¬ bd p = o := fun w1 w2 => q (by rw [← w2]; exact w1)
      constructor <;> intro w
      · omega
      · by_cases e : bd p = o
        · have := this; rcases w with w | w
          · omega
          · exact absurd e (this w.1)
        · omega
theorem RE.out {bd dy : Nat → Nat} {nC nO : Nat} {a : Int32} (hQ : RQ bd dy nO) (hC : nC ≤ 30) (hO : nO ≤ 30) : ∀ (f d k : Nat) (α β : x_St) (s : Int32), d + f = 1000 → RQk bd dy nO d 0 k → RE bd dy nC nO α β →
    (f_se a nC (nO - k) k α s).1 = (m_so a nC nO f d β s).1 ∧ RE bd dy nC nO (f_se a nC (nO - k) k α s).2 (m_so a nC nO f d β s).2
  | 0, d, k, α, β, s, hd, hk, hE => by
    have : k = nO := by
      rcases Nat.lt_or_ge k nO with w | w
      · have h1 := (hk.2 k w).mpr (Or.inl (by have := hQ.2.2.2 _ (hQ.1 k w); omega))
        omega
      · have := hk.1; omega
    subst this
    rw [Nat.sub_self]
    exact ⟨rfl, hE⟩
  | f + 1, d, k, α, β, s, hd, hk, hE => by
    rw [m_so]
    obtain ⟨k', α', hk', hE', e⟩ := RE.in hQ hC hO (show d ≤ 999 by omega) (a := a) nO 0 k α β s (by omega) hk hE
    rw [e]
    exact RE.out hQ hC hO f (d + 1) k' α' _ _ (by omega) hk' hE'
theorem f_se_k {a : Int32} {nC : Nat} : ∀ (f k : Nat) (α : x_St) (s : Int32) (x y z : Nat), ¬ (x = 1 ∧ z = 6) → ¬ (x = 4 ∧ z = 7) → (f_se a nC f k α s).2 x y z = α x y z
  | 0, _, _, _, _, _, _, _, _ => rfl
  | f + 1, k, α, s, x, y, z, h1, h2 => by
    rw [f_se]
    split
    · rw [f_se_k f _ _ _ x y z h1 h2, x_up_n (by omega), f_gv_k _ _ _ _ _ _ _ _ _ h1]
    · exact f_se_k f _ _ _ x y z h1 h2
theorem m_si_kp {a : Int32} {d nC : Nat} : ∀ (f o : Nat) (β : x_St) (s : Int32) (x y z : Nat), ¬ (x = 58 ∨ x = 67) → (m_si a d nC f o β s).2 x y z = β x y z
  | 0, _, _, _, _, _, _, _ => rfl
  | f + 1, o, β, s, x, y, z, h => by
    rw [m_si]
    split
    · rw [m_si_kp f _ _ _ x y z h, m_snd_kp h]
    · exact m_si_kp f _ _ _ x y z h
theorem m_so_kp {a : Int32} {nC nO : Nat} : ∀ (f d : Nat) (β : x_St) (s : Int32) (x y z : Nat), ¬ (x = 58 ∨ x = 67) → (m_so a nC nO f d β s).2 x y z = β x y z
  | 0, _, _, _, _, _, _, _ => rfl
  | f + 1, d, β, s, x, y, z, h => by rw [m_so, m_so_kp f _ _ _ x y z h, m_si_kp _ _ _ _ x y z h]
theorem sp_send {ad : Nat → Nat → Nat} {nS nB nC nO N : Nat} {σ : x_St} {a : Int32} {kk : Int32} {u : x_St} (hh : Rl σ nS nB nC nO N) (hq : q_L_send ad nS nB nC nO σ a kk u) : x_M7 σ u ∧ ∀ (r : Int32) (v : x_St), q_X7_send u a nC nO r v → v 7 0 0 = kk ∧ (kk = 0 → v 8 0 0 = r) ∧ Rl v nS nB nC nO (N + 1) := by
  rcases hq with ⟨rfl, r, σ', ⟨hP, hr, rfl⟩, rfl⟩ | ⟨rfl, ⟨_, hP⟩, hσ⟩
  · have hσ7 : x_M7 σ (x_up (f_se a nC nO 0 σ 0).2 6 0 13 (σ 6 0 13 + (f_se a nC nO 0 σ 0).1)) := fun a' b' d' q => by
      rw [x_up_n (by omega), f_se_k _ _ _ _ _ _ _ (by omega) (by omega)]
    refine ⟨hσ7.o r, fun r' v hv => ?_⟩
    obtain ⟨e1, rfl⟩ := hv.1 hP
    have ek : ∀ a' b' d', 36 ≤ a' → x_up (x_up (x_up (f_se a nC nO 0 σ 0).2 6 0 13 (σ 6 0 13 + (f_se a nC nO 0 σ 0).1)) 8 0 0 r) 7 0 0 0 a' b' d' = σ a' b' d' := fun a' b' d' q => by rw [x_up_n (by omega), x_up_n (by omega)]; exact hσ7 a' b' d' (Or.inr q)
    have e75 : x_up (x_up (f_se a nC nO 0 σ 0).2 6 0 13 (σ 6 0 13 + (f_se a nC nO 0 σ 0).1)) 8 0 0 r 7 0 5 = σ 6 0 13 := by rw [x_o8 (by decide), hσ7 7 0 5 (by omega)]; exact hh.K.P
    have hE : RE (fun q => x_c (σ 18 0 q)) (fun o => x_c (σ 4 o 5)) nC nO σ (x_up (x_up (x_up (f_se a nC nO 0 σ 0).2 6 0 13 (σ 6 0 13 + (f_se a nC nO 0 σ 0).1)) 8 0 0 r) 7 0 0 0) := by
      refine ⟨⟨fun c hc => ?_, fun o q ho hq => ?_, hh.O.m⟩, fun q hq => (hh.O.b q hq).1, fun o ho => ?_⟩
      · rw [ek 55 0 c (by omega), ek 56 0 c (by omega), ek 57 0 c (by omega), ek 58 0 c (by omega)]; exact hh.C.e c hc
      · rw [ek (60 + q) 0 o (by omega)]; exact hh.O.e o q ho hq
      · obtain ⟨t, t9, et⟩ := hh.O.d o ho
        show _ = nI (x_c (σ 4 o 5))
        rw [ek 65 0 o (by omega), show σ 65 0 o = σ 4 o 5 from hh.O.e o 5 ho (by decide), et, x_cn (by omega)]
    have hQ : RQ (fun q => x_c (σ 18 0 q)) (fun o => x_c (σ 4 o 5)) nO := ⟨fun q hq => (hh.O.b q hq).2, hh.O.u, hh.O.s, fun o ho => by
      obtain ⟨t, t9, et⟩ := hh.O.d o ho
      show x_c (σ 4 o 5) ≤ 999
      rw [et, x_cn (by omega)]; exact t9⟩
    obtain ⟨w1, w2⟩ := RE.out (a := a) hQ hh.K.C0 hh.K.O0 1000 0 0 _ _ 0 rfl ⟨Nat.zero_le _, fun q hq => by constructor <;> intro <;> omega⟩ hE
    rw [Nat.sub_zero] at w1 w2
    have hvk : ∀ a' b' d', ¬ (a' = 58 ∨ a' = 67) → ¬ (a' = 7 ∧ (d' = 0 ∨ d' = 5)) → ¬ (a' = 8 ∨ (a' = 6 ∧ d' = 13)) → x_up (m_so a nC nO 1000 0 (x_up (x_up (x_up (f_se a nC nO 0 σ 0).2 6 0 13 (σ 6 0 13 + (f_se a nC nO 0 σ 0).1)) 8 0 0 r) 7 0 0 0) 0).2 7 0 5 (x_up (x_up (f_se a nC nO 0 σ 0).2 6 0 13 (σ 6 0 13 + (f_se a nC nO 0 σ 0).1)) 8 0 0 r 7 0 5 + (m_so a nC nO 1000 0 (x_up (x_up (x_up (f_se a nC nO 0 σ 0).2 6 0 13 (σ 6 0 13 + (f_se a nC nO 0 σ 0).1)) 8 0 0 r) 7 0 0 0) 0).1) a' b' d' = (f_se a nC nO 0 σ 0).2 a' b' d' := fun a' b' d' q1 q2 q3 => by
      rw [x_up_n (by omega), m_so_kp _ _ _ _ _ _ _ q1, x_up_n (by omega), x_up_n (by omega), x_up_n (by omega)]
    have hvm : ∀ a' b' d', 36 ≤ a' → x_up (m_so a nC nO 1000 0 (x_up (x_up (x_up (f_se a nC nO 0 σ 0).2 6 0 13 (σ 6 0 13 + (f_se a nC nO 0 σ 0).1)) 8 0 0 r) 7 0 0 0) 0).2 7 0 5 (x_up (x_up (f_se a nC nO 0 σ 0).2 6 0 13 (σ 6 0 13 + (f_se a nC nO 0 σ 0).1)) 8 0 0 r 7 0 5 + (m_so a nC nO 1000 0 (x_up (x_up (x_up (f_se a nC nO 0 σ 0).2 6 0 13 (σ 6 0 13 + (f_se a nC nO 0 σ 0).1)) 8 0 0 r) 7 0 0 0) 0).1) a' b' d' = (m_so a nC nO 1000 0 (x_up (x_up (x_up (f_se a nC nO 0 σ 0).2 6 0 13 (σ 6 0 13 + (f_se a nC nO 0 σ 0).1)) 8 0 0 r) 7 0 0 0) 0).2 a' b' d' := fun a' b' d' q => x_up_n (by omega)
    have h700 : x_up (m_so a nC nO 1000 0 (x_up (x_up (x_up (f_se a nC nO 0 σ 0).2 6 0 13 (σ 6 0 13 + (f_se a nC nO 0 σ 0).1)) 8 0 0 r) 7 0 0 0) 0).2 7 0 5 (x_up (x_up (f_se a nC nO 0 σ 0).2 6 0 13 (σ 6 0 13 + (f_se a nC nO 0 σ 0).1)) 8 0 0 r 7 0 5 + (m_so a nC nO 1000 0 (x_up (x_up (x_up (f_se a nC nO 0 σ 0).2 6 0 13 (σ 6 0 13 + (f_se a nC nO 0 σ 0).1)) 8 0 0 r) 7 0 0 0) 0).1) 7 0 0 = 0 := by
      rw [x_up_n (by omega), m_so_kp _ _ _ _ _ _ _ (by omega), x_up_s]
    have h800 : x_up (m_so a nC nO 1000 0 (x_up (x_up (x_up (f_se a nC nO 0 σ 0).2 6 0 13 (σ 6 0 13 + (f_se a nC nO 0 σ 0).1)) 8 0 0 r) 7 0 0 0) 0).2 7 0 5 (x_up (x_up (f_se a nC nO 0 σ 0).2 6 0 13 (σ 6 0 13 + (f_se a nC nO 0 σ 0).1)) 8 0 0 r 7 0 5 + (m_so a nC nO 1000 0 (x_up (x_up (x_up (f_se a nC nO 0 σ 0).2 6 0 13 (σ 6 0 13 + (f_se a nC nO 0 σ 0).1)) 8 0 0 r) 7 0 0 0) 0).1) 8 0 0 = r := by
      rw [x_up_n (by omega), m_so_kp _ _ _ _ _ _ _ (by omega), x_t8]
    have hv75 : x_up (m_so a nC nO 1000 0 (x_up (x_up (x_up (f_se a nC nO 0 σ 0).2 6 0 13 (σ 6 0 13 + (f_se a nC nO 0 σ 0).1)) 8 0 0 r) 7 0 0 0) 0).2 7 0 5 (x_up (x_up (f_se a nC nO 0 σ 0).2 6 0 13 (σ 6 0 13 + (f_se a nC nO 0 σ 0).1)) 8 0 0 r 7 0 5 + (m_so a nC nO 1000 0 (x_up (x_up (x_up (f_se a nC nO 0 σ 0).2 6 0 13 (σ 6 0 13 + (f_se a nC nO 0 σ 0).1)) 8 0 0 r) 7 0 0 0) 0).1) 7 0 5 = σ 6 0 13 + (f_se a nC nO 0 σ 0).1 := by rw [x_up_s, e75, ← w1]
    have hv613 : x_up (m_so a nC nO 1000 0 (x_up (x_up (x_up (f_se a nC nO 0 σ 0).2 6 0 13 (σ 6 0 13 + (f_se a nC nO 0 σ 0).1)) 8 0 0 r) 7 0 0 0) 0).2 7 0 5 (x_up (x_up (f_se a nC nO 0 σ 0).2 6 0 13 (σ 6 0 13 + (f_se a nC nO 0 σ 0).1)) 8 0 0 r 7 0 5 + (m_so a nC nO 1000 0 (x_up (x_up (x_up (f_se a nC nO 0 σ 0).2 6 0 13 (σ 6 0 13 + (f_se a nC nO 0 σ 0).1)) 8 0 0 r) 7 0 0 0) 0).1) 6 0 13 = σ 6 0 13 + (f_se a nC nO 0 σ 0).1 := by
      rw [x_up_n (by omega), m_so_kp _ _ _ _ _ _ _ (by omega), x_up_n (by omega), x_up_n (by omega), x_up_s]
    refine ⟨h700, fun _ => h800.trans (hr.trans (w1.trans e1.symm)), ?_⟩
    generalize x_up (m_so a nC nO 1000 0 (x_up (x_up (x_up (f_se a nC nO 0 σ 0).2 6 0 13 (σ 6 0 13 + (f_se a nC nO 0 σ 0).1)) 8 0 0 r) 7 0 0 0) 0).2 7 0 5 (x_up (x_up (f_se a nC nO 0 σ 0).2 6 0 13 (σ 6 0 13 + (f_se a nC nO 0 σ 0).1)) 8 0 0 r 7 0 5 + (m_so a nC nO 1000 0 (x_up (x_up (x_up (f_se a nC nO 0 σ 0).2 6 0 13 (σ 6 0 13 + (f_se a nC nO 0 σ 0).1)) 8 0 0 r) 7 0 0 0) 0).1) = v at hvk hvm hv75 hv613 ⊢
    have hvs : ∀ a' b' d', ¬ (a' = 58 ∨ a' = 67) → ¬ (a' = 7 ∧ (d' = 0 ∨ d' = 5)) → ¬ (a' = 8 ∨ (a' = 6 ∧ d' = 13)) → ¬ (a' = 1 ∧ d' = 6) → ¬ (a' = 4 ∧ d' = 7) → v a' b' d' = σ a' b' d' := fun a' b' d' q1 q2 q3 q4 q5 => by rw [hvk a' b' d' q1 q2 q3, f_se_k _ _ _ _ _ _ _ q4 q5]
    have v1 : ∀ b' d', v 1 b' d' = (f_se a nC nO 0 σ 0).2 1 b' d' := fun b' d' => hvk 1 b' d' (by omega) (by omega) (by omega)
    have v4 : ∀ b' d', v 4 b' d' = (f_se a nC nO 0 σ 0).2 4 b' d' := fun b' d' => hvk 4 b' d' (by omega) (by omega) (by omega)
    obtain ⟨⟨c1, c2, c3⟩, _, _⟩ := w2
    refine ⟨⟨?_, hh.K.S0, ?_, ?_, hh.K.B0, ?_, ?_, hh.K.C0, ?_, ?_, hh.K.O0, ?_, hv75.trans hv613.symm⟩, hh.S.up.mv (fun a' b' d' q => hvs a' b' d' (by omega) (by omega) (by omega) (by omega) (by omega)), hh.B.mv (fun a' b' d' q => hvs a' b' d' (by omega) (by omega) (by omega) (by omega) (by omega)) (hvs 6 0 12 (by omega) (by omega) (by omega) (by omega) (by omega)), hh.M.mv (fun a' b' d' q => hvs a' b' d' (by omega) (by omega) (by omega) (by omega) (by omega)), ⟨?_, ?_, ?_⟩, ⟨?_, ?_, ?_, ?_, ?_, ?_⟩⟩
    · rw [hvs 6 0 1 (by omega) (by omega) (by omega) (by omega) (by omega)]; exact hh.K.S
    · rw [hvs 7 0 1 (by omega) (by omega) (by omega) (by omega) (by omega)]; exact hh.K.S7
    · rw [hvs 6 0 3 (by omega) (by omega) (by omega) (by omega) (by omega)]; exact hh.K.B
    · rw [hvs 7 0 2 (by omega) (by omega) (by omega) (by omega) (by omega)]; exact hh.K.B7
    · rw [hvs 6 0 6 (by omega) (by omega) (by omega) (by omega) (by omega)]; exact hh.K.C
    · rw [hvs 7 0 3 (by omega) (by omega) (by omega) (by omega) (by omega)]; exact hh.K.C7
    · rw [hvs 6 0 8 (by omega) (by omega) (by omega) (by omega) (by omega)]; exact hh.K.O
    · rw [hvs 7 0 4 (by omega) (by omega) (by omega) (by omega) (by omega)]; exact hh.K.O7
    · intro c hc; rw [v1, v1, v1, v1, hvm 55 0 c (by omega), hvm 56 0 c (by omega), hvm 57 0 c (by omega), hvm 58 0 c (by omega)]; exact c1 c hc
    · intro c k hc hk; rw [hvs 59 0 _ (by omega) (by omega) (by omega) (by omega) (by omega), hvs 10 c k (by omega) (by omega) (by omega) (by omega) (by omega)]; exact hh.C.o c k hc hk
    · intro c hc
      have e : ∀ b, m_ext v b c 12 = m_ext σ b c 12 := fun b => m_ext_cong (fun q _ => ⟨hvs 59 0 _ (by omega) (by omega) (by omega) (by omega) (by omega), hvs 43 0 _ (by omega) (by omega) (by omega) (by omega) (by omega)⟩) 12 (Nat.le_refl _)
      rw [hvs 1 c 4 (by omega) (by omega) (by omega) (by omega) (by omega), hvs 1 c 5 (by omega) (by omega) (by omega) (by omega) (by omega), e, e]; exact hh.C.x c hc
    · intro o q ho hq; rw [v4, hvm (60 + q) 0 o (by omega)]; exact c2 o q ho hq
    · intro o ho; rw [v4]; exact c3 o ho
    · intro o ho; rw [hvs 4 o 5 (by omega) (by omega) (by omega) (by omega) (by omega)]; exact hh.O.d o ho
    · intro q hq; rw [hvs 18 0 q (by omega) (by omega) (by omega) (by omega) (by omega)]; exact hh.O.b q hq
    · intro o ho
      obtain ⟨q, q1, q2⟩ := hh.O.u o ho
      exact ⟨q, q1, by rw [hvs 18 0 q (by omega) (by omega) (by omega) (by omega) (by omega)]; exact q2⟩
    · intro p q h1 h2
      rw [hvs 18 0 p (by omega) (by omega) (by omega) (by omega) (by omega), hvs 18 0 q (by omega) (by omega) (by omega) (by omega) (by omega), hvs 4 _ 5 (by omega) (by omega) (by omega) (by omega) (by omega), hvs 4 _ 5 (by omega) (by omega) (by omega) (by omega) (by omega)]
      exact hh.O.s p q h1 h2
  · replace hσ := hσ.symm; subst hσ
    refine ⟨x_M7.rf σ, fun r' v hv => ?_⟩
    rw [hv.2 hP]
    exact ⟨x_up_s, fun q => absurd q (by decide), hh.rd0 _⟩
