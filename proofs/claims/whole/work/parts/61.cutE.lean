/-- where the class's place stands among the shell's own -/
def cb_p (R C pl : Nat) : Nat := if pl / 6 < R then C * (pl / 6) + min (pl % 6) C else R * C
section CB
variable {σ : x_St} {i R C : Nat}
theorem cb_p_in (hR : R ≤ 6) (hC : C ≤ 6) {pl : Nat} (h1 : pl / 6 < R) (h2 : pl % 6 < C) : cb_p R C pl = C * (pl / 6) + pl % 6 ∧ cb_p R C pl < R * C ∧ cb_p R C pl % C = pl % 6 ∧ ∀ z, 1 ≤ z → pl % 6 + z ≤ C → cb_p R C (pl + z) = cb_p R C pl + z ∧ cb_p R C pl + z ≤ R * C := by
  have e : cb_p R C pl = C * (pl / 6) + pl % 6 := by rw [cb_p, if_pos h1, Nat.min_eq_left (by omega)]
  have hm : C * (pl / 6) + C ≤ R * C := by
    have := Nat.mul_le_mul_left C (show pl / 6 + 1 ≤ R from h1)
    rw [Nat.mul_add, Nat.mul_one, Nat.mul_comm C R] at this
    exact this
  refine ⟨e, by omega, by rw [e, Nat.mul_add_mod, Nat.mod_eq_of_lt h2], fun z z1 z2 => ⟨?_, by omega⟩⟩
  rw [e]
  by_cases q : pl % 6 + z < 6
  · rw [cb_p, show (pl + z) / 6 = pl / 6 by omega, show (pl + z) % 6 = pl % 6 + z by omega, if_pos h1, Nat.min_eq_left z2, Nat.add_assoc]
  · have hC6 : C = 6 := by omega
    rw [cb_p, show (pl + z) / 6 = pl / 6 + 1 by omega, show (pl + z) % 6 = 0 by omega]
    by_cases q2 : pl / 6 + 1 < R
    · rw [if_pos q2, Nat.zero_min, Nat.mul_add]; omega
    · rw [if_neg q2, show R = pl / 6 + 1 by omega, Nat.mul_comm, Nat.mul_add]; omega
theorem cb_p_out (hR : R ≤ 6) (hC : C ≤ 6) {pl : Nat} (h : ¬ (pl / 6 < R ∧ pl % 6 < C)) : cb_p R C (pl + 1) = cb_p R C pl := by
  by_cases h1 : pl / 6 < R
  · have h2 : C ≤ pl % 6 := by omega
    rw [show cb_p R C pl = C * (pl / 6) + C by rw [cb_p, if_pos h1, Nat.min_eq_right h2]]
    by_cases q : pl % 6 + 1 < 6
    · rw [cb_p, show (pl + 1) / 6 = pl / 6 by omega, show (pl + 1) % 6 = pl % 6 + 1 by omega, if_pos h1, Nat.min_eq_right (by omega)]
    · rw [cb_p, show (pl + 1) / 6 = pl / 6 + 1 by omega, show (pl + 1) % 6 = 0 by omega]
      by_cases q2 : pl / 6 + 1 < R
      · rw [if_pos q2, Nat.zero_min, Nat.mul_add, Nat.mul_one, Nat.add_zero]
      · rw [if_neg q2, show R = pl / 6 + 1 by omega, Nat.mul_comm, Nat.mul_add, Nat.mul_one]
  · rw [cb_p, cb_p, if_neg h1, if_neg (by omega)]
theorem cb_p_le (hC : C ≤ 6) {pl : Nat} : cb_p R C pl ≤ R * C := by
  rw [cb_p]
  split
  · rename_i h
    have := Nat.mul_le_mul_left C (show pl / 6 + 1 ≤ R from h)
    rw [Nat.mul_add, Nat.mul_one, Nat.mul_comm C R] at this
    omega
  · exact Nat.le_refl _
theorem cb_At (hH : ca_H σ i R C) {f : Nat} (hf : f ≤ 36) (d : Nat → Nat) : 0 ≤ ca_A 64 (ca_G σ i R C) C (R * C) f d ∧ ca_A 64 (ca_G σ i R C) C (R * C) f d ≤ 3596400 := by
  refine ⟨ca_A_pos (by decide) f d, ?_⟩
  have := ca_A_top (lam := 64) (G := ca_G σ i R C) (C := C) (N := R * C) (ca_G_top hH) (by decide) f d
  omega
theorem cb_ml3 {w : Nat → Int32} {x x1 x2 x3 : Int32} (h1 : (if x < w 1 then w 1 else x) = x1) (h2 : (if x1 < w 2 then w 2 else x1) = x2) (h3 : (if x2 < w 3 then w 3 else x2) = x3) : f_ml w 3 1 x = x3 := by
  subst h1 h2 h3
  rfl
theorem cb_m1 : (-1 : Int32) = oI (-1) := rfl
/-- a place that holds no blank of its own -/
theorem cb_none {w : Nat → Int32} {a : Int} (ha : 0 ≤ a) (ha2 : a ≤ 3596400) (h : ∀ z, 1 ≤ z → z ≤ 3 → w z = -1) : f_ml w 3 1 (oI a) = oI a := by
  have hs : ∀ z, 1 ≤ z → z ≤ 3 → (if oI a < w z then w z else oI a) = oI a := fun z z1 z3 => by
    rw [h z z1 z3, cb_m1]
    exact if_neg (fun q => absurd ((oI_lt (by omega) (by omega) (by decide) (by decide)).mp q) (by omega))
  exact cb_ml3 (hs 1 (by decide) (by decide)) (hs 2 (by decide) (by decide)) (hs 3 (by decide) (by decide))
theorem cb_W0 {g : Nat → Int32} {F : Nat → Nat → Int32} {pl k z : Nat} (h : g (36 * z + pl) = 0 ∨ ¬ k / 3 ^ (pl % 6) % 3 ^ z = 0) : f_W F g pl k z = -1 := by
  rw [f_W, if_pos h]
/-- what a size comes to at a place of the shell -/
theorem cb_W (hH : cb_H σ i R C) {pl k f : Nat} {d : Nat → Nat} (h1 : pl / 6 < R) (h2 : pl % 6 < C) (hf : R * C - cb_p R C pl = f + 1) (hD : cb_D C k d) (h0 : d (pl % 6) = 0) {z : Nat} (hz1 : 1 ≤ z) (hz3 : z ≤ 3)
    (ih : ∀ z k d, 1 ≤ z → pl + z ≤ 36 → cb_D C k d → f_S (f_rG σ i 108 12 0) (pl + z) k = oI (ca_A 64 (ca_G σ i R C) C (R * C) (R * C - cb_p R C (pl + z)) d)) :
    ∃ v : Int, f_W (f_S (f_rG σ i 108 12 0)) (f_rG σ i 108 12 0) pl k z = oI v ∧ -1000000 ≤ v ∧ v ≤ 3796400 ∧ ((ca_ok (ca_G σ i R C) C (R * C - (f + 1)) d z ∧ v = ca_c 64 (ca_G σ i R C) C (R * C - (f + 1)) (ca_A 64 (ca_G σ i R C) C (R * C) f) d z) ∨ (¬ ca_ok (ca_G σ i R C) C (R * C - (f + 1)) d z ∧ v < 0 ∧ ca_c 64 (ca_G σ i R C) C (R * C - (f + 1)) (ca_A 64 (ca_G σ i R C) C (R * C) f) d z = ca_A 64 (ca_G σ i R C) C (R * C) f d)) := by
  obtain ⟨hC1, hC6, hR6, _⟩ := id hH
  obtain ⟨ep, hlt, emod, hstep⟩ := cb_p_in hR6 hC6 h1 h2
  have hN := ca_N36 hH.ca
  have hpos : R * C - (f + 1) = cb_p R C pl := by omega
  have hg : f_rG σ i 108 12 0 (36 * z + pl) = oI (ca_G σ i R C (cb_p R C pl) z) := by
    have := cb_g hH h1 h2 hz1 hz3
    rw [show 6 * (pl / 6) + pl % 6 = pl by omega, ← ep] at this
    exact this
  obtain ⟨_, _, _, _, hp0, hp9, _⟩ := ca_Gv hH.ca (p := cb_p R C pl) hz1 hz3
  have hdv := cb_dv (k := k) (c := pl % 6) hz3
  rw [hpos]
  by_cases hok : ca_ok (ca_G σ i R C) C (cb_p R C pl) d z
  · have hfit := (ca_fit hH.ca hz1 hz3 hok.1).2
    rw [emod] at hfit
    obtain ⟨es, hle⟩ := hstep z hz1 hfit
    have hfree : ∀ x, x < z → d (pl % 6 + x) = 0 := fun x hx => by have := hok.2 x hx; rw [emod] at this; exact this
    have hd0 : k / 3 ^ (pl % 6) % 3 ^ z = 0 := hdv.mpr (fun x hx => by rw [hD.1]; exact hfree x hx)
    have hne : ¬ oI (ca_G σ i R C (cb_p R C pl) z) = 0 := fun q => by
      have := (oI_eq (b := 0) (by omega) (by omega) (by decide) (by decide)).mp q
      have := hok.1
      omega
    obtain ⟨k1, _⟩ := cb_skip (lam := 64) (G := ca_G σ i R C) (N := R * C) (d := d) hz1 emod hfit hle (z - 1) 1 (by omega) (Nat.le_refl _)
    rw [← cb_put hz1, show R * C - (cb_p R C pl + 1) = f by omega] at k1
    have hS := ih z (f_pw z pl k) _ hz1 (by omega) (cb_pw hD hz1 hz3 hfit hfree)
    rw [es, ← k1] at hS
    have hA := cb_At hH.ca (show f ≤ 36 by omega) (ca_put d (pl % 6) z)
    refine ⟨64 * ca_G σ i R C (cb_p R C pl) z - 1 + ca_A 64 (ca_G σ i R C) C (R * C) f (ca_put d (pl % 6) z), ?_, by omega, by omega, Or.inl ⟨hok, by rw [ca_c, if_pos hok, emod]⟩⟩
    rw [f_W, hg, if_neg (fun q => q.elim hne (fun w => w hd0)), hS, oI_lit64, oI_mul, oI_lit1, oI_sub, oI_add, Int.mul_comm]
  · refine ⟨-1, ?_, by decide, by decide, Or.inr ⟨hok, by decide, by rw [ca_c, if_neg hok]⟩⟩
    refine cb_W0 ?_
    by_cases hg0 : 0 < ca_G σ i R C (cb_p R C pl) z
    · right
      intro q
      exact hok ⟨hg0, fun x hx => by rw [emod, ← hD.1]; exact hdv.mp q x hx⟩
    · left
      rw [hg, show ca_G σ i R C (cb_p R C pl) z = 0 by omega]; rfl
theorem cb_refused {g : Nat → Int32} {F : Nat → Nat → Int32} {pl k z : Nat} {d : Nat → Nat} (hD : cb_D C k d) (h : 0 < d (pl % 6)) (h1 : 1 ≤ z) (h3 : z ≤ 3) : f_W F g pl k z = -1 := by
  refine cb_W0 (Or.inr (fun q => ?_))
  have := (cb_dv (k := k) (c := pl % 6) h3).mp q 0 (by omega)
  rw [Nat.add_zero, hD.1] at this
  omega
theorem cb_S (hH : cb_H σ i R C) : ∀ (n pl k : Nat) (d : Nat → Nat), 36 - pl < n → pl ≤ 36 → cb_D C k d → f_S (f_rG σ i 108 12 0) pl k = oI (ca_A 64 (ca_G σ i R C) C (R * C) (R * C - cb_p R C pl) d)
  | 0, _, _, _, h, _, _ => absurd h (Nat.not_lt_zero _)
  | n + 1, pl, k, d, hn, hp, hD => by
    obtain ⟨hC1, hC6, hR6, _⟩ := id hH
    have hN := ca_N36 hH.ca
    rcases Nat.lt_or_ge pl 36 with hp36 | hp36
    · have ih : ∀ z k d, 1 ≤ z → pl + z ≤ 36 → cb_D C k d → f_S (f_rG σ i 108 12 0) (pl + z) k = oI (ca_A 64 (ca_G σ i R C) C (R * C) (R * C - cb_p R C (pl + z)) d) := fun z k d z1 z2 hD => cb_S hH n (pl + z) k d (by omega) z2 hD
      rw [f_S_eq hp36, ih 1 _ _ (by decide) (by omega) (cb_wo hD)]
      by_cases hin : pl / 6 < R ∧ pl % 6 < C
      · obtain ⟨h1, h2⟩ := hin
        obtain ⟨ep, hlt, emod, hstep⟩ := cb_p_in hR6 hC6 h1 h2
        obtain ⟨es, hle⟩ := hstep 1 (by decide) (by omega)
        obtain ⟨f, hf⟩ : ∃ f, R * C - cb_p R C pl = f + 1 := ⟨R * C - cb_p R C pl - 1, by omega⟩
        have hpos : R * C - (f + 1) = cb_p R C pl := by omega
        rw [es, show R * C - (cb_p R C pl + 1) = f by omega, hf, ca_nx, if_pos rfl]
        by_cases h0 : 0 < d (pl % 6)
        · rw [if_pos h0, ca_A, hpos, emod, if_pos h0]
          have hA := cb_At hH.ca (show f ≤ 36 by omega) (ca_dec d (pl % 6))
          exact cb_none hA.1 hA.2 (fun z z1 z3 => cb_refused hD h0 z1 z3)
        · rw [if_neg h0]
          have hA := cb_At hH.ca (show f ≤ 36 by omega) d
          have hd0 : d (pl % 6) = 0 := by omega
          obtain ⟨v1, ev1, l1, u1, c1⟩ := cb_W hH h1 h2 hf hD hd0 (z := 1) (by decide) (by decide) ih
          obtain ⟨v2, ev2, l2, u2, c2⟩ := cb_W hH h1 h2 hf hD hd0 (z := 2) (by decide) (by decide) ih
          obtain ⟨v3, ev3, l3, u3, c3⟩ := cb_W hH h1 h2 hf hD hd0 (z := 3) (by decide) (by decide) ih
          obtain ⟨s1, q1, w1⟩ := ca_st rfl (Int.le_refl _) (by omega) hA.1 ev1 l1 u1 (c1.imp (fun z => z.2) (fun z => ⟨by omega, z.2.2⟩))
          obtain ⟨s2, q2, w2⟩ := ca_st rfl q1 w1 hA.1 ev2 l2 u2 (c2.imp (fun z => z.2) (fun z => ⟨by omega, z.2.2⟩))
          obtain ⟨s3, q3, w3⟩ := ca_st rfl q2 w2 hA.1 ev3 l3 u3 (c3.imp (fun z => z.2) (fun z => ⟨by omega, z.2.2⟩))
          rw [ca_A, hpos, emod, if_neg h0]
          rw [hpos] at s1 s2 s3
          exact cb_ml3 s1 s2 s3
      · rw [cb_p_out hR6 hC6 hin]
        have hz : ∀ z, 1 ≤ z → z ≤ 3 → f_W (f_S (f_rG σ i 108 12 0)) (f_rG σ i 108 12 0) pl k z = -1 := fun z z1 z3 => cb_W0 (Or.inl (cb_g0 hH hp36 z1 z3 hin))
        have hA := cb_At hH.ca (show R * C - cb_p R C pl ≤ 36 by omega) (ca_nx d (pl % 6) 0)
        rw [cb_none hA.1 hA.2 hz]
        by_cases h1 : pl / 6 < R
        · have : d (pl % 6) = 0 := hD.2 _ (by omega)
          rw [ca_nx, if_pos rfl, if_neg (by omega)]
        · rw [show R * C - cb_p R C pl = 0 by rw [cb_p, if_neg h1, Nat.sub_self]]; rfl
    · rw [f_S, dif_pos hp36, cb_p, if_neg (by omega), Nat.sub_self]; rfl
/-- the class's choice -/
theorem cb_cz_in (hH : cb_H σ i R C) {pl k f : Nat} {d : Nat → Nat} (h1 : pl / 6 < R) (h2 : pl % 6 < C) (hf : R * C - cb_p R C pl = f + 1) (hD : cb_D C k d) : f_cz (f_rG σ i 108 12 0) pl k = ca_z 64 (ca_G σ i R C) C (R * C) f d := by
  obtain ⟨hC1, hC6, hR6, _⟩ := id hH
  obtain ⟨ep, hlt, emod, hstep⟩ := cb_p_in hR6 hC6 h1 h2
  have hN := ca_N36 hH.ca
  have hpos : R * C - (f + 1) = cb_p R C pl := by omega
  have eS := cb_S hH 37 pl k d (by omega) (by omega) hD
  rw [hf] at eS
  have hA := cb_At hH.ca (show f + 1 ≤ 36 by omega) d
  rw [f_cz, f_czl, f_czl, f_czl, f_czl, ca_z, hpos]
  by_cases h0 : 0 < d (pl % 6)
  · rw [if_pos (show 0 < d (cb_p R C pl % C) by rw [emod]; exact h0)]
    have hn : ∀ z, 1 ≤ z → z ≤ 3 → ¬ f_W (f_S (f_rG σ i 108 12 0)) (f_rG σ i 108 12 0) pl k z = f_S (f_rG σ i 108 12 0) pl k := by
      intro z z1 z3 q
      rw [cb_refused hD h0 z1 z3, eS, cb_m1] at q
      have := (oI_eq (a := -1) (by decide) (by decide) (by omega) (by omega)).mp q
      omega
    rw [if_neg (hn 3 (by decide) (by decide)), if_neg (hn 2 (by decide) (by decide)), if_neg (hn 1 (by decide) (by decide))]
  · rw [if_neg (show ¬ 0 < d (cb_p R C pl % C) by rw [emod]; exact h0)]
    have he : ∀ z, 1 ≤ z → z ≤ 3 → (f_W (f_S (f_rG σ i 108 12 0)) (f_rG σ i 108 12 0) pl k z = f_S (f_rG σ i 108 12 0) pl k ↔ (ca_ok (ca_G σ i R C) C (cb_p R C pl) d z ∧ ca_c 64 (ca_G σ i R C) C (cb_p R C pl) (ca_A 64 (ca_G σ i R C) C (R * C) f) d z = ca_A 64 (ca_G σ i R C) C (R * C) (f + 1) d)) := by
      intro z z1 z3
      obtain ⟨v, ev, l, u, hc⟩ := cb_W hH h1 h2 hf hD (by omega) z1 z3 (fun z k d z1 z2 hD => cb_S hH 37 (pl + z) k d (by omega) z2 hD)
      rw [hpos] at hc
      rw [ev, eS, oI_eq (by omega) (by omega) (by omega) (by omega)]
      rcases hc with ⟨q1, q2⟩ | ⟨q1, q2, q3⟩
      · rw [q2]; exact ⟨fun w => ⟨q1, w⟩, fun w => w.2⟩
      · exact ⟨fun w => absurd w (by omega), fun w => absurd w.1 q1⟩
    simp only [he 3 (by decide) (by decide), he 2 (by decide) (by decide), he 1 (by decide) (by decide)]
theorem cb_cz_out (hH : cb_H σ i R C) {pl k : Nat} {d : Nat → Nat} (hp : pl < 36) (hin : ¬ (pl / 6 < R ∧ pl % 6 < C)) (hD : cb_D C k d) : f_cz (f_rG σ i 108 12 0) pl k = 0 := by
  have hN := ca_N36 hH.ca
  have eS := cb_S hH 37 pl k d (by omega) (by omega) hD
  have hA := cb_At hH.ca (show R * C - cb_p R C pl ≤ 36 by omega) d
  have hn : ∀ z, 1 ≤ z → z ≤ 3 → ¬ f_W (f_S (f_rG σ i 108 12 0)) (f_rG σ i 108 12 0) pl k z = f_S (f_rG σ i 108 12 0) pl k := by
    intro z z1 z3 q
    rw [cb_W0 (Or.inl (cb_g0 hH hp z1 z3 hin)), eS, cb_m1] at q
    have := (oI_eq (a := -1) (by decide) (by decide) (by omega) (by omega)).mp q
    omega
  rw [f_cz, f_czl, f_czl, f_czl, f_czl, if_neg (hn 3 (by decide) (by decide)), if_neg (hn 2 (by decide) (by decide)), if_neg (hn 1 (by decide) (by decide))]
theorem cb_cs (hH : cb_H σ i R C) : ∀ (F pl k : Nat) (t : Nat → Nat) (d : Nat → Nat), 36 ≤ pl + F → cb_D C k d → (∀ q, pl ≤ q → t q = 0) → ∀ r c, r < R → c < C → f_cs (f_rG σ i 108 12 0) F pl k t (6 * r + c) = if 6 * r + c < pl then t (6 * r + c) else ca_T 64 (ca_G σ i R C) C (R * C) (R * C - cb_p R C pl) d (C * r + c)
  | 0, pl, k, t, d, hF, hD, ht, r, c, hr, hc => by
    have := hH.2.1; have := hH.2.2.1
    rw [if_pos (by omega)]; rfl
  | F + 1, pl, k, t, d, hF, hD, ht, r, c, hr, hc => by
    obtain ⟨hC1, hC6, hR6, _⟩ := id hH
    have hN := ca_N36 hH.ca
    rw [f_cs]
    by_cases hp : 36 ≤ pl
    · rw [if_pos hp, if_pos (by omega)]
    · rw [if_neg hp]
      by_cases hin : pl / 6 < R ∧ pl % 6 < C
      · obtain ⟨h1, h2⟩ := hin
        obtain ⟨ep, hlt, emod, hstep⟩ := cb_p_in hR6 hC6 h1 h2
        obtain ⟨f, hf⟩ : ∃ f, R * C - cb_p R C pl = f + 1 := ⟨R * C - cb_p R C pl - 1, by omega⟩
        have hpos : R * C - (f + 1) = cb_p R C pl := by omega
        have ez := cb_cz_in hH h1 h2 hf hD
        have hz3 := f_cz_3 (f_rG σ i 108 12 0) pl k
        rw [hf]
        -- the order of the places
        have hsame : r = pl / 6 → C * r + c = cb_p R C pl + c - pl % 6 ∧ pl = 6 * r + pl % 6 := fun q => by subst q; exact ⟨by omega, by omega⟩
        have hless : r < pl / 6 → 6 * r + c < pl := fun q => by omega
        have hmore : pl / 6 < r → pl + 6 ≤ 6 * r + pl % 6 ∧ cb_p R C pl + C ≤ C * r + pl % 6 := fun q => by
          have := Nat.mul_le_mul_left C (show pl / 6 + 1 ≤ r from q)
          rw [Nat.mul_add, Nat.mul_one] at this
          omega
        rcases Nat.eq_zero_or_pos (f_cz (f_rG σ i 108 12 0) pl k) with hz | hz
        · obtain ⟨es, _⟩ := hstep 1 (by decide) (by omega)
          have hz2 : ca_z 64 (ca_G σ i R C) C (R * C) f d = 0 := ez.symm.trans hz
          rw [hz, if_neg (by omega), show pl + max 1 0 = pl + 1 from rfl, cb_cs hH F (pl + 1) (f_wo pl k) _ _ (by omega) (cb_wo hD) (fun q hq => by rw [if_neg (by omega)]; exact ht q (by omega)) r c hr hc, es, show R * C - (cb_p R C pl + 1) = f by omega]
          by_cases q1 : 6 * r + c < pl
          · rw [if_pos (by omega), if_neg (by omega), if_pos q1]
          · rw [if_neg q1, ca_T, hpos, emod, hz2]
            by_cases q2 : 6 * r + c = pl
            · rw [if_pos (by omega), if_pos q2, if_pos (by have := hsame (by omega); omega)]
            · rw [if_neg (by omega)]
              have hne : ¬ C * r + c = cb_p R C pl := fun w => by
                rcases Nat.lt_trichotomy r (pl / 6) with q | q | q
                · have := hless q; omega
                · have := hsame q; omega
                · have := hmore q; omega
              rw [if_neg hne]
        · obtain ⟨hd0, hok, _⟩ := ca_z_ok (show 0 < ca_z 64 (ca_G σ i R C) C (R * C) f d by rw [← ez]; exact hz)
          rw [← ez, hpos] at hok
          rw [hpos, emod] at hd0
          generalize hzz : f_cz (f_rG σ i 108 12 0) pl k = z at hz hz3 hok ez ⊢
          have hfit := (ca_fit hH.ca hz hz3 hok.1).2
          rw [emod] at hfit
          obtain ⟨es, hle⟩ := hstep z hz hfit
          have hfree : ∀ x, x < z → d (pl % 6 + x) = 0 := fun x hx => by have := hok.2 x hx; rw [emod] at this; exact this
          obtain ⟨_, k2⟩ := cb_skip (lam := 64) (G := ca_G σ i R C) (N := R * C) (d := d) hz emod hfit hle (z - 1) 1 (by omega) (Nat.le_refl _)
          rw [← cb_put hz, show R * C - (cb_p R C pl + 1) = f by omega] at k2
          rw [if_pos hz, Nat.max_eq_right hz, cb_cs hH F (pl + z) (f_pw z pl k) _ _ (by omega) (cb_pw hD hz hz3 hfit hfree) (fun q hq => by rw [if_neg (by omega)]; exact ht q (by omega)) r c hr hc, es]
          by_cases q1 : 6 * r + c < pl
          · rw [if_pos (by omega), if_neg (by omega), if_pos q1]
          · rw [if_neg q1, ca_T, hpos, emod, ← ez]
            by_cases q2 : 6 * r + c = pl
            · rw [if_pos (by omega), if_pos q2, if_pos (by have := hsame (by omega); omega)]
            · have hgt : cb_p R C pl < C * r + c := by
                rcases Nat.lt_trichotomy r (pl / 6) with q | q | q
                · have := hless q; omega
                · have := hsame q; omega
                · have := hmore q; omega
              rw [if_neg (show ¬ C * r + c = cb_p R C pl by omega), ca_nx, if_neg (show ¬ z = 0 by omega), k2 _ (by omega)]
              by_cases q3 : 6 * r + c < pl + z
              · have hr2 : r = pl / 6 := by omega
                have := hsame hr2
                rw [if_pos q3, if_neg q2, ht _ (by omega), if_pos (by omega)]
              · have : ¬ C * r + c < cb_p R C pl + z := by
                  rcases Nat.lt_trichotomy r (pl / 6) with q | q | q
                  · have := hless q; omega
                  · have := hsame q; omega
                  · have := hmore q; omega
                rw [if_neg q3, if_neg this]
      · have hz := cb_cz_out hH (by omega) hin hD
        rw [hz, if_neg (by omega), show pl + max 1 0 = pl + 1 from rfl, cb_cs hH F (pl + 1) (f_wo pl k) _ _ (by omega) (cb_wo hD) (fun q hq => by rw [if_neg (by omega)]; exact ht q (by omega)) r c hr hc, cb_p_out hR6 hC6 hin]
        have hne : ¬ 6 * r + c = pl := fun w => hin (by omega)
        by_cases q1 : 6 * r + c < pl
        · rw [if_pos (by omega), if_neg hne, if_pos q1]
        · rw [if_neg (by omega), if_neg q1]
          have : pl / 6 < R := by omega
          have h0 : d (pl % 6) = 0 := hD.2 _ (by omega)
          rw [ca_nx, if_pos rfl, if_neg (by omega)]
end CB
