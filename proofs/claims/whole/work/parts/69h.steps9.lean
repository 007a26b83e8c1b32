theorem x_itec {p q : Prop} [Decidable p] [Decidable q] {a b : Int32} (h : p ↔ q) : (if p then a else b) = if q then a else b := by
  by_cases w : q
  · rw [if_pos w, if_pos (h.mpr w)]
  · rw [if_neg w, if_neg (fun u => w (h.mp u))]
/-! a dozen for a card -/
theorem RW.fit {α β : x_St} {nB n4 i : Nat} (h : RW α β nB n4) (hi : i < nB) (s1 s2 s3 t sp : Int32) : f_fit α i s1 s2 s3 t (t + sp) ↔ m_fit β i s1 s2 s3 t sp := by
  have e42 : β 42 0 i = α 0 i 0 := h.1 i 0 hi (by decide)
  have e43 : β 43 0 i = α 0 i 1 := h.1 i 1 hi (by decide)
  have e44 : β 44 0 i = α 0 i 2 := h.1 i 2 hi (by decide)
  have e46 : β 46 0 i = α 0 i 5 := h.1 i 4 hi (by decide)
  have e47 : β 47 0 i = α 0 i 6 := h.1 i 5 hi (by decide)
  unfold f_fit m_fit
  rw [e42, e43, e44, e46, e47]
theorem m_fc_n {σ : x_St} {s1 s2 s3 t sp : Int32} : ∀ (f b n : Nat) (a : Int32), (m_fc σ s1 s2 s3 t sp f b n a).1 = n + m_fr σ s1 s2 s3 t sp f b ∧ (1 ≤ n → (m_fc σ s1 s2 s3 t sp f b n a).2 = a)
  | 0, _, _, _ => ⟨rfl, fun _ => rfl⟩
  | f + 1, b, n, a => by
    rw [m_fc, m_fr]
    by_cases q : m_fit σ b s1 s2 s3 t sp
    · rw [if_pos q, if_pos q]
      obtain ⟨i1, i2⟩ := m_fc_n (σ := σ) (s1 := s1) (s2 := s2) (s3 := s3) (t := t) (sp := sp) f (b + 1) (n + 1) (if n = 0 then nI b else a)
      exact ⟨by rw [i1]; omega, fun h => by rw [i2 (by omega), if_neg (by omega)]⟩
    · rw [if_neg q, if_neg q]
      obtain ⟨i1, i2⟩ := m_fc_n (σ := σ) (s1 := s1) (s2 := s2) (s3 := s3) (t := t) (sp := sp) f (b + 1) n a
      exact ⟨by rw [i1]; omega, i2⟩
theorem m_fc_f {σ : x_St} {s1 s2 s3 t sp : Int32} : ∀ (f b : Nat) (a : Int32), 1 ≤ (m_fc σ s1 s2 s3 t sp f b 0 a).1 → ∃ b0, b ≤ b0 ∧ b0 < b + f ∧ (∀ q, b ≤ q → q < b0 → ¬ m_fit σ q s1 s2 s3 t sp) ∧ (m_fc σ s1 s2 s3 t sp f b 0 a).2 = nI b0
  | 0, _, _, h => absurd h (by simp [m_fc])
  | f + 1, b, a, h => by
    rw [m_fc] at h ⊢
    by_cases q : m_fit σ b s1 s2 s3 t sp
    · rw [if_pos q]
      refine ⟨b, Nat.le_refl _, by omega, fun p h1 h2 => by omega, ?_⟩
      rw [(m_fc_n (σ := σ) f (b + 1) 1 _).2 (by decide), if_pos rfl]
    · rw [if_neg q] at h ⊢
      obtain ⟨b0, h1, h2, h3, h4⟩ := m_fc_f f (b + 1) a h
      exact ⟨b0, by omega, by omega, fun p p1 p2 => by
        by_cases e : p = b
        · rw [e]; exact q
        · exact h3 p (by omega) p2, h4⟩
theorem RW.fd {α β : x_St} {nB n4 : Nat} (h : RW α β nB n4) {s1 s2 s3 t sp : Int32} : ∀ (f i : Nat) (fi : Int32) (n : Nat), i + f ≤ nB → n ≤ 12 → f_fd α s1 s2 s3 t (t + sp) f i fi n = ((m_fc β s1 s2 s3 t sp f i n fi).2, min (m_fc β s1 s2 s3 t sp f i n fi).1 12)
  | 0, _, fi, n, _, hn => by rw [f_fd, m_fc, Nat.min_eq_left hn]
  | f + 1, i, fi, n, hi, hn => by
    by_cases q12 : n = 12
    · rw [f_fd, if_pos q12]
      obtain ⟨e1, e2⟩ := m_fc_n (σ := β) (s1 := s1) (s2 := s2) (s3 := s3) (t := t) (sp := sp) (f + 1) i n fi
      rw [e1, e2 (by omega), Nat.min_eq_right (by omega), q12]
    · rw [f_fd, if_neg q12, m_fc]
      have hf := h.fit (show i < nB by omega) s1 s2 s3 t sp
      by_cases q : f_fit α i s1 s2 s3 t (t + sp)
      · rw [if_pos q, if_pos (hf.mp q)]
        exact RW.fd h f (i + 1) _ (n + 1) (by omega) (by omega)
      · rw [if_neg q, if_neg (fun w => q (hf.mpr w))]
        exact RW.fd h f (i + 1) fi n (by omega) hn
theorem RW.first {α β : x_St} {nB n4 j : Nat} (h : RW α β nB n4) {s1 s2 s3 t sp : Int32} (h0 : α 1 j 0 = s1) (h1 : α 1 j 1 = s2) (h2 : α 1 j 2 = s3) : f_first α j nB t (t + sp) = if 12 ≤ (m_fc β s1 s2 s3 t sp nB 0 0 (-1)).1 then (m_fc β s1 s2 s3 t sp nB 0 0 (-1)).2 else -1 := by
  rw [f_first, h0, h1, h2, h.fd nB 0 (-1) 0 (by omega) (by decide)]
  by_cases q : 12 ≤ (m_fc β s1 s2 s3 t sp nB 0 0 (-1)).1
  · rw [if_pos q, if_pos (by dsimp only; omega)]
  · rw [if_neg q, if_neg (by dsimp only; omega)]
theorem nI_m1 {n : Nat} (h : n < 2 ^ 31) : ¬ nI n = -1 := fun q => by
  have := congrArg Int32.toInt q
  rw [nI_toInt h] at this
  have h1 : (-1 : Int32).toInt = -1 := rfl
  rw [h1] at this
  omega
/-- which least thickness is best, on both sides -/
def RT9 (β : x_St) (s1 s2 s3 sp : Int32) (nB : Nat) (be bf fi be' : Int32) : Prop := (be = -1 ∧ bf = 400 ∧ fi = -1) ∨ ∃ t0 b0 : Nat, 1 ≤ t0 ∧ t0 ≤ 9 ∧ b0 < nB ∧ be = nI t0 ∧ be' = nI t0 ∧ bf = nI b0 ∧ fi = nI b0 ∧ 12 ≤ (m_fc β s1 s2 s3 (nI t0) sp nB 0 0 (-1)).1 ∧ (m_fc β s1 s2 s3 (nI t0) sp nB 0 0 (-1)).2 = nI b0
theorem RW.bt {α β : x_St} {nB n4 j : Nat} (h : RW α β nB n4) (hB : nB ≤ 400) {s1 s2 s3 sp : Int32} (h0 : α 1 j 0 = s1) (h1 : α 1 j 1 = s2) (h2 : α 1 j 2 = s3) : ∀ (f tt : Nat) (be bf fi be' : Int32), 1 ≤ tt → tt + f ≤ 10 → RT9 β s1 s2 s3 sp nB be bf fi be' →
    RT9 β s1 s2 s3 sp nB (f_bt α j sp nB f tt be bf).1 (f_bt α j sp nB f tt be bf).2 (m_ft β s1 s2 s3 sp nB f tt fi be').1 (m_ft β s1 s2 s3 sp nB f tt fi be').2
  | 0, _, _, _, _, _, _, _, hr => hr
  | f + 1, tt, be, bf, fi, be', ht, ht9, hr => by
    rw [f_bt, m_ft, h.first (t := nI tt) (sp := sp) h0 h1 h2]
    by_cases q : 12 ≤ (m_fc β s1 s2 s3 (nI tt) sp nB 0 0 (-1)).1
    · obtain ⟨b1, _, hb1, _, eb1⟩ := m_fc_f (σ := β) (s1 := s1) (s2 := s2) (s3 := s3) (t := nI tt) (sp := sp) nB 0 (-1) (by omega)
      rw [if_pos q, eb1]
      have hnew : RT9 β s1 s2 s3 sp nB (nI tt) (nI b1) (nI b1) (nI tt) := Or.inr ⟨tt, b1, ht, by omega, by omega, rfl, rfl, rfl, rfl, q, eb1⟩
      rcases hr with ⟨r1, r2, r3⟩ | ⟨t0, b0, r1, r2, r3, r4, r5, r6, r7, r8, r9⟩
      · subst r1 r2 r3
        rw [if_pos ⟨nI_m1 (by omega), (nI_ltI (b := 400) (by omega) (by decide)).mpr (by omega)⟩, if_neg (fun w => w.elim (fun u => by omega) (fun u => u.1 rfl))]
        exact RW.bt h hB h0 h1 h2 f (tt + 1) _ _ _ _ (by omega) (by omega) hnew
      · have hlt := nI_ltI (a := b1) (b := b0) (by omega) (by omega)
        have hle := nI_leI (a := b0) (b := b1) (by omega) (by omega)
        rw [r6, r7]
        by_cases w : b1 < b0
        · rw [if_pos ⟨nI_m1 (by omega), hlt.mpr w⟩, if_neg (fun u => u.elim (fun u => by omega) (fun u => by have := hle.mp u.2; omega))]
          exact RW.bt h hB h0 h1 h2 f (tt + 1) _ _ _ _ (by omega) (by omega) hnew
        · rw [if_neg (fun u => w (hlt.mp u.2)), if_pos (Or.inr ⟨nI_m1 (by omega), hle.mpr (by omega)⟩)]
          exact RW.bt h hB h0 h1 h2 f (tt + 1) _ _ _ _ (by omega) (by omega) (Or.inr ⟨t0, b0, r1, r2, r3, r4, r5, rfl, rfl, r8, r9⟩)
    · rw [if_neg q, if_neg (fun w => w.1 rfl), if_pos (Or.inl (by omega))]
      exact RW.bt h hB h0 h1 h2 f (tt + 1) _ _ _ _ (by omega) (by omega) hr
/-- n of the twelve are sewn -/
def RV (α β : x_St) (nB nC n4 n : Nat) (a b d : Int32) : Prop := RW α β nB (n4 + n) ∧ (∀ q, q < n → β 59 0 (12 * nC + q) = α 10 nC q ∧ ∃ b', b' < nB ∧ α 10 nC q = nI b') ∧ (α 1 nC 4 = if n = 0 then 9 else m_ext β 3 nC n) ∧ (α 1 nC 5 = if n = 0 then 0 else m_ext β 4 nC n) ∧ α 1 nC 0 = a ∧ α 1 nC 1 = b ∧ α 1 nC 2 = d ∧ α 6 0 6 = nI nC
theorem m_ext_cn {σ σ' : x_St} {b : Int32} {c : Nat} : ∀ n, 1 ≤ n → (∀ q, q < n → σ' 59 0 (12 * c + q) = σ 59 0 (12 * c + q) ∧ σ' 43 0 (x_c (σ 59 0 (12 * c + q))) = σ 43 0 (x_c (σ 59 0 (12 * c + q)))) → m_ext σ' b c n = m_ext σ b c n
  | 0, h, _ => absurd h (by decide)
  | n + 1, _, h => by
    obtain ⟨h1, h2⟩ := h n (by omega)
    rcases Nat.eq_zero_or_pos n with q | q
    · subst q
      rw [Nat.add_zero] at h1 h2
      rw [m_ext, m_ext, m_ext, m_ext, Nat.add_zero, h1, h2]
    · rw [m_ext, m_ext, h1, h2, m_ext_cn n q (fun p hp => h p (by omega))]
theorem RV.sd {nB nC n4 : Nat} {a b d sp : Int32} {t : Int32} (hB : nB ≤ 400) : ∀ (f k n : Nat) (α β : x_St), k + f = nB → n ≤ 12 → RV α β nB nC n4 n a b d → 12 ≤ n + m_fr β a b d t sp f k →
    RV (f_sd nC t (t + sp) f k n α) (m_cs a b d t sp nC f k n β) nB nC n4 12 a b d
  | 0, k, n, α, β, _, hn, hv, hc => by
    rw [m_fr] at hc
    have : n = 12 := by omega
    subst this
    exact hv
  | f + 1, k, n, α, β, hk, hn, hv, hc => by
    rw [f_sd, m_cs]
    by_cases q12 : n = 12
    · subst q12; rw [if_pos rfl, if_pos rfl]; exact hv
    · rw [if_neg q12, if_neg q12]
      obtain ⟨hw, ho, hx4, hx5, e0, e1, e2, e6⟩ := hv
      have hkB : k < nB := by omega
      have hf := hw.fit hkB a b d t sp
      rw [m_fr] at hc
      rw [e0, e1, e2]
      by_cases q : f_fit α k a b d t (t + sp)
      · rw [if_pos q, if_pos (hf.mp q)]
        rw [if_pos (hf.mp q)] at hc
        refine RV.sd hB f (k + 1) (n + 1) _ _ (by omega) (by omega) ?_ (by rw [m_fr_up _ _ _ _ _ _ _ _ _ _ _ (show k < k + 1 by omega)]; omega)
        obtain ⟨tk, tk1, tk9, etk⟩ := hw.2.2.1 k hkB
        have e43 : β 43 0 k = α 0 k 1 := hw.1 k 1 hkB (by decide)
        have e46 : β 46 0 k = α 0 k 5 := hw.1 k 4 hkB (by decide)
        have hst : α 0 k 5 = 2 := q.1
        -- the two states, by kinds
        have ha : ∀ x y z, ¬ (x = 0 ∧ y = k ∧ (z = 5 ∨ z = 8)) → ¬ (x = 10 ∧ y = nC ∧ z = n) → ¬ (x = 1 ∧ y = nC ∧ (z = 4 ∨ z = 5)) → x_up (x_up (f_sew α nC n (nI k) (α 0 k 1)) 0 k 5 4) 0 k 8 (α 6 0 6) x y z = α x y z := fun x y z h1 h2 h3 => by
          rw [x_up_n (by omega), x_up_n (by omega), f_sew, x_up_n (by omega), x_up_n (by omega), x_up_n (by omega)]
        have hb : ∀ x y z, ¬ ((x = 46 ∨ x = 49) ∧ z = k) → ¬ (x = 59 ∧ z = 12 * nC + n) → x_up (x_up (x_up β 46 0 k 4) 49 0 k (nI nC)) 59 0 (12 * nC + n) (nI k) x y z = β x y z := fun x y z h1 h2 => by
          rw [x_up_n (by omega), x_up_n (by omega), x_up_n (by omega)]
        have a05 : x_up (x_up (f_sew α nC n (nI k) (α 0 k 1)) 0 k 5 4) 0 k 8 (α 6 0 6) 0 k 5 = 4 := by rw [x_up_n (by omega), x_up_s]
        have a08 : x_up (x_up (f_sew α nC n (nI k) (α 0 k 1)) 0 k 5 4) 0 k 8 (α 6 0 6) 0 k 8 = nI nC := by rw [x_up_s, e6]
        have a10 : x_up (x_up (f_sew α nC n (nI k) (α 0 k 1)) 0 k 5 4) 0 k 8 (α 6 0 6) 10 nC n = nI k := by rw [x_up_n (by omega), x_up_n (by omega), f_sew, x_up_n (by omega), x_up_n (by omega), x_up_s]
        have a14 : x_up (x_up (f_sew α nC n (nI k) (α 0 k 1)) 0 k 5 4) 0 k 8 (α 6 0 6) 1 nC 4 = if α 0 k 1 < α 1 nC 4 then α 0 k 1 else α 1 nC 4 := by rw [x_up_n (by omega), x_up_n (by omega), f_sew, x_up_n (by omega), x_up_s]
        have a15 : x_up (x_up (f_sew α nC n (nI k) (α 0 k 1)) 0 k 5 4) 0 k 8 (α 6 0 6) 1 nC 5 = if α 1 nC 5 < α 0 k 1 then α 0 k 1 else α 1 nC 5 := by rw [x_up_n (by omega), x_up_n (by omega), f_sew, x_up_s]
        have b46 : x_up (x_up (x_up β 46 0 k 4) 49 0 k (nI nC)) 59 0 (12 * nC + n) (nI k) 46 0 k = 4 := by rw [x_up_n (by omega), x_up_n (by omega), x_up_s]
        have b49 : x_up (x_up (x_up β 46 0 k 4) 49 0 k (nI nC)) 59 0 (12 * nC + n) (nI k) 49 0 k = nI nC := by rw [x_up_n (by omega), x_up_s]
        have b59 : x_up (x_up (x_up β 46 0 k 4) 49 0 k (nI nC)) 59 0 (12 * nC + n) (nI k) 59 0 (12 * nC + n) = nI k := x_up_s
        have bq : ∀ q, x_up (x_up (x_up β 46 0 k 4) 49 0 k (nI nC)) 59 0 (12 * nC + n) (nI k) 46 0 q = if q = k then 4 else β 46 0 q := fun q => by
          by_cases w : q = k
          · rw [if_pos w, w, b46]
          · rw [if_neg w, hb _ _ _ (by omega) (by omega)]
        generalize x_up (x_up (f_sew α nC n (nI k) (α 0 k 1)) 0 k 5 4) 0 k 8 (α 6 0 6) = α' at ha a05 a08 a10 a14 a15 ⊢
        generalize x_up (x_up (x_up β 46 0 k 4) 49 0 k (nI nC)) 59 0 (12 * nC + n) (nI k) = β' at hb b46 b49 b59 bq ⊢
        obtain ⟨e, z, tt, ti, hbk, k3, k4, mm⟩ := hw
        have hcnt : ∀ s, m_cnt β' s nB + (if β 46 0 k = s then 1 else 0) = m_cnt β s nB + (if (4 : Int32) = s then 1 else 0) := fun s => m_cnt_set nB hkB (fun q _ => bq q)
        have hT : β' 43 0 (x_c (β' 59 0 (12 * nC + n))) = α 0 k 1 := by rw [b59, x_cn (by omega), hb 43 0 k (by omega) (by omega), e43]
        have hext0 : n = 0 → ∀ x : Int32, m_ext β' x nC (n + 1) = α 0 k 1 := fun w x => by
          subst w
          rw [Nat.add_zero] at hT
          rw [m_ext, m_ext, Nat.add_zero, hT, ite_self]
        have hext3 : 1 ≤ n → m_ext β' 3 nC (n + 1) = if α 0 k 1 < m_ext β 3 nC n then α 0 k 1 else m_ext β 3 nC n := fun w => by
          rw [m_ext, hT, m_ext_cn (σ := β) n w (fun q hq => ⟨hb 59 0 _ (by omega) (by omega), hb 43 0 _ (by omega) (by omega)⟩)]
          exact x_itec (by rw [if_pos rfl])
        have hext4 : 1 ≤ n → m_ext β' 4 nC (n + 1) = if m_ext β 4 nC n < α 0 k 1 then α 0 k 1 else m_ext β 4 nC n := fun w => by
          rw [m_ext, hT, m_ext_cn (σ := β) n w (fun q hq => ⟨hb 59 0 _ (by omega) (by omega), hb 43 0 _ (by omega) (by omega)⟩)]
          exact x_itec (by rw [if_neg (by decide)])
        refine ⟨⟨?_, ?_, ?_, ?_, ?_, ?_, ?_, ?_⟩, ?_, ?_, ?_, ?_, ?_, ?_, ?_⟩
        · intro j q' hj hq'
          by_cases hj2 : j = k
          · subst hj2
            have hq9 : q' = 0 ∨ q' = 1 ∨ q' = 2 ∨ q' = 3 ∨ q' = 4 ∨ q' = 5 ∨ q' = 6 ∨ q' = 7 ∨ q' = 8 := by omega
            rcases hq9 with rfl | rfl | rfl | rfl | rfl | rfl | rfl | rfl | rfl
            · exact (hb 42 0 j (by omega) (by omega)).trans ((e j 0 hj (by decide)).trans (ha 0 j 0 (by omega) (by omega) (by omega)).symm)
            · exact (hb 43 0 j (by omega) (by omega)).trans ((e j 1 hj (by decide)).trans (ha 0 j 1 (by omega) (by omega) (by omega)).symm)
            · exact (hb 44 0 j (by omega) (by omega)).trans ((e j 2 hj (by decide)).trans (ha 0 j 2 (by omega) (by omega) (by omega)).symm)
            · exact (hb 45 0 j (by omega) (by omega)).trans ((e j 3 hj (by decide)).trans (ha 0 j 3 (by omega) (by omega) (by omega)).symm)
            · exact b46.trans a05.symm
            · exact (hb 47 0 j (by omega) (by omega)).trans ((e j 5 hj (by decide)).trans (ha 0 j 6 (by omega) (by omega) (by omega)).symm)
            · exact (hb 48 0 j (by omega) (by omega)).trans ((e j 6 hj (by decide)).trans (ha 0 j 7 (by omega) (by omega) (by omega)).symm)
            · exact b49.trans a08.symm
            · exact (hb 50 0 j (by omega) (by omega)).trans ((e j 8 hj (by decide)).trans (ha 0 j 4 (by omega) (by omega) (by omega)).symm)
          · rw [hb _ _ _ (by omega) (by omega), ha _ _ _ (by omega) (by omega) (by omega)]; exact e j q' hj hq'
        · intro j hj; rw [ha _ _ _ (by omega) (by omega) (by omega)]; exact z j hj
        · intro j hj; rw [ha _ _ _ (by omega) (by omega) (by omega)]; exact tt j hj
        · intro j hj; rw [ha _ _ _ (by omega) (by omega) (by omega)]; exact ti j hj
        · intro j hj
          by_cases hj2 : j = k
          · subst hj2; rw [a05]; intro w; exact absurd w (by decide)
          · rw [ha _ _ _ (by omega) (by omega) (by omega), ha _ _ _ (by omega) (by omega) (by omega)]; exact hbk j hj
        · have := hcnt 3
          rw [e46, hst, if_neg (by decide), if_neg (by decide)] at this
          rw [ha _ _ _ (by omega) (by omega) (by omega), k3, show m_cnt β' 3 nB = m_cnt β 3 nB by omega]
        · have := hcnt 4
          rw [e46, hst, if_neg (by decide), if_pos rfl] at this
          omega
        · intro j q' hj hq'; rw [hb _ _ _ (by omega) (by omega), ha _ _ _ (by omega) (by omega) (by omega)]; exact mm j q' hj hq'
        · intro q' hq'
          by_cases w : q' = n
          · subst w; rw [b59, a10]; exact ⟨rfl, k, hkB, rfl⟩
          · rw [hb _ _ _ (by omega) (by omega), ha _ _ _ (by omega) (by omega) (by omega)]; exact ho q' (by omega)
        · rw [a14, if_neg (show ¬ n + 1 = 0 by omega)]
          rcases Nat.eq_zero_or_pos n with w | w
          · rw [hext0 w, hx4, if_pos w, etk]
            have h9 := nI_ltI (a := tk) (b := 9) (by omega) (by decide)
            by_cases u : tk < 9
            · exact if_pos (h9.mpr u)
            · rw [show tk = 9 by omega]; exact if_neg Int32.lt_irrefl
          · rw [hext3 w, hx4, if_neg (show ¬ n = 0 by omega)]
        · rw [a15, if_neg (show ¬ n + 1 = 0 by omega)]
          rcases Nat.eq_zero_or_pos n with w | w
          · rw [hext0 w, hx5, if_pos w, etk]
            exact if_pos ((nI_ltI (a := 0) (b := tk) (by decide) (by omega)).mpr tk1)
          · rw [hext4 w, hx5, if_neg (show ¬ n = 0 by omega)]
        · rw [ha _ _ _ (by omega) (by omega) (by omega)]; exact e0
        · rw [ha _ _ _ (by omega) (by omega) (by omega)]; exact e1
        · rw [ha _ _ _ (by omega) (by omega) (by omega)]; exact e2
        · rw [ha _ _ _ (by omega) (by omega) (by omega)]; exact e6
      · rw [if_neg q, if_neg (fun w => q (hf.mpr w))]
        rw [if_neg (fun w => q (hf.mpr w))] at hc
        exact RV.sd hB f (k + 1) n α β (by omega) hn ⟨hw, ho, hx4, hx5, e0, e1, e2, e6⟩ (by omega)
theorem f_sd_skip {nC : Nat} {x y : Int32} {a b d : Int32} : ∀ (g f k : Nat) (α : x_St), α 1 nC 0 = a → α 1 nC 1 = b → α 1 nC 2 = d → (∀ q, k ≤ q → q < k + g → ¬ f_fit α q a b d x y) → f_sd nC x y (g + f) k 0 α = f_sd nC x y f (k + g) 0 α
  | 0, f, k, α, _, _, _, _ => by rw [Nat.zero_add]; rfl
  | g + 1, f, k, α, h0, h1, h2, h => by
    rw [show g + 1 + f = (g + f) + 1 by omega, f_sd, if_neg (by decide), h0, h1, h2, if_neg (h k (Nat.le_refl _) (by omega)), f_sd_skip g f (k + 1) α h0 h1 h2 (fun q q1 q2 => h q (by omega) (by omega)), show k + 1 + g = k + (g + 1) by omega]
theorem m_fr_skip {β : x_St} {s1 s2 s3 t sp : Int32} : ∀ (g f k : Nat), (∀ q, k ≤ q → q < k + g → ¬ m_fit β q s1 s2 s3 t sp) → m_fr β s1 s2 s3 t sp (g + f) k = m_fr β s1 s2 s3 t sp f (k + g)
  | 0, f, k, _ => by rw [Nat.zero_add]; rfl
  | g + 1, f, k, h => by
    rw [show g + 1 + f = (g + f) + 1 by omega, m_fr, if_neg (h k (Nat.le_refl _) (by omega)), Nat.zero_add, m_fr_skip g f (k + 1) (fun q q1 q2 => h q (by omega) (by omega)), show k + 1 + g = k + (g + 1) by omega]
theorem f_sd_kk {nC : Nat} {x y : Int32} : ∀ (f k n : Nat) (α : x_St) (p q r : Nat), ¬ (p = 0 ∧ (r = 5 ∨ r = 8)) → ¬ ((p = 1 ∨ p = 10) ∧ q = nC) → f_sd nC x y f k n α p q r = α p q r
  | 0, _, _, _, _, _, _, _, _ => rfl
  | f + 1, k, n, α, p, q, r, h1, h2 => by
    rw [f_sd]
    split
    · rfl
    · split
      · rw [f_sd_kk f _ _ _ p q r h1 h2, x_up_n (by omega), x_up_n (by omega), f_sew, x_up_n (by omega), x_up_n (by omega), x_up_n (by omega)]
      · exact f_sd_kk f _ _ _ p q r h1 h2
theorem m_cs_kk {s1 s2 s3 t sp : Int32} {nC : Nat} : ∀ (f b n : Nat) (β : x_St) (p q r : Nat), ¬ (p = 46 ∨ p = 49) → ¬ (p = 59 ∧ 12 * nC ≤ r) → m_cs s1 s2 s3 t sp nC f b n β p q r = β p q r
  | 0, _, _, _, _, _, _, _, _ => rfl
  | f + 1, b, n, β, p, q, r, h1, h2 => by
    rw [m_cs]
    split
    · rfl
    · split
      · rw [m_cs_kk f _ _ _ p q r h1 h2, x_up_n (by omega), x_up_n (by omega), x_up_n (by omega)]
      · exact m_cs_kk f _ _ _ p q r h1 h2
theorem f_sd_16 {nC : Nat} {x y : Int32} : ∀ (f k n : Nat) (α : x_St), f_sd nC x y f k n α 1 nC 6 = α 1 nC 6
  | 0, _, _, _ => rfl
  | f + 1, k, n, α => by
    rw [f_sd]
    split
    · rfl
    · split
      · rw [f_sd_16 f, x_up_n (by omega), x_up_n (by omega), f_sew, x_up_n (by omega), x_up_n (by omega), x_up_n (by omega)]
      · exact f_sd_16 f _ _ _
theorem f_X1_k {σ : x_St} {i : Nat} {a b d : Int32} {k j q : Nat} (h : ¬ ((k = 1 ∨ k = 10) ∧ j = i)) : f_X1_init (x_zr σ 1 i) i a b d k j q = σ k j q := by
  rw [f_X1_init, x_up_n (by omega), x_up_n (by omega), x_up_n (by omega), x_up_n (by omega), x_up_n (by omega), x_up_n (by omega), x_zr, if_neg (by omega), x_zr, if_neg (by omega)]
/-- no card has come -/
theorem Rl.nocard {σ v : x_St} {nS nB nC nO N : Nat} (hh : Rl σ nS nB nC nO N) (hk : ∀ x y z, ¬ ((x = 1 ∨ x = 10) ∧ y = nC) → ¬ (x = 8 ∨ (x = 7 ∧ z = 0)) → v x y z = σ x y z) : Rl v nS nB nC nO (N + 1) := by
  refine ⟨hh.K.mv (fun d _ => hk 6 0 d (by omega) (by omega)) (fun d _ => hk 7 0 d (by omega) (by omega)), hh.S.up.mv (fun x y z q => hk x y z (by omega) (by omega)), hh.B.mv (fun x y z q => hk x y z (by omega) (by omega)) (hk 6 0 12 (by omega) (by omega)), hh.M.mv (fun x y z q => hk x y z (by omega) (by omega)), ⟨?_, ?_, ?_⟩, hh.O.mv (fun x y z q => hk x y z (by omega) (by omega))⟩
  · intro c hc; rw [hk 1 c 0 (by omega) (by omega), hk 1 c 1 (by omega) (by omega), hk 1 c 2 (by omega) (by omega), hk 1 c 6 (by omega) (by omega), hk 55 0 c (by omega) (by omega), hk 56 0 c (by omega) (by omega), hk 57 0 c (by omega) (by omega), hk 58 0 c (by omega) (by omega)]; exact hh.C.e c hc
  · intro c k hc hk2; rw [hk 59 0 _ (by omega) (by omega), hk 10 c k (by omega) (by omega)]; exact hh.C.o c k hc hk2
  · intro c hc
    have e : ∀ b, m_ext v b c 12 = m_ext σ b c 12 := fun b => m_ext_cong (fun q _ => ⟨hk 59 0 _ (by omega) (by omega), hk 43 0 _ (by omega) (by omega)⟩) 12 (Nat.le_refl _)
    rw [hk 1 c 4 (by omega) (by omega), hk 1 c 5 (by omega) (by omega), e, e]; exact hh.C.x c hc
theorem sp_card {ad : Nat → Nat → Nat} {nS nB nC nO N : Nat} {σ : x_St} {a b d f : Int32} {kk : Int32} {ad' : Nat → Nat → Nat} {m' : Nat} {τ : x_St} (hh : Rl σ nS nB nC nO N) (hq : q_L_card ad nS nB nC nO σ a b d f kk (ad', m', τ)) : (∀ a b, b < x_n nS nB nC nO a → ad' a b = ad a b) ∧ x_M7 σ τ ∧ ∀ (r : Int32) (v : x_St), q_X7_card τ a b d f nB nC r v → v 7 0 0 = kk ∧ (kk = 0 → v 8 0 0 = r) ∧ Rl v nS nB m' nO (N + 1) := by
  have hB0 := hh.K.B0
  rcases hq with ⟨rfl, r, ⟨ad1, m1, σ'⟩, ⟨hag, hP, hc1, hc2, hc3⟩, he⟩ | ⟨rfl, ⟨_, hP⟩, he⟩
  · obtain ⟨rfl, rfl, rfl⟩ : ad' = ad1 ∧ m' = m1 ∧ τ = x_up σ' 8 0 0 r := by
      have := Prod.mk.inj he
      have := Prod.mk.inj this.2
      exact ⟨by simp_all, by simp_all, by simp_all⟩
    dsimp only at hc1 hc2 hc3
    have hC0 := hh.K.C0
    by_cases h30 : nC < 30
    · -- the two sides before the search
      have e10 : f_X1_init (x_zr σ 1 nC) nC a b d 1 nC 0 = a := by simp [f_X1_init, x_up]
      have e11 : f_X1_init (x_zr σ 1 nC) nC a b d 1 nC 1 = b := by simp [f_X1_init, x_up]
      have e12 : f_X1_init (x_zr σ 1 nC) nC a b d 1 nC 2 = d := by simp [f_X1_init, x_up]
      have e14 : f_X1_init (x_zr σ 1 nC) nC a b d 1 nC 4 = 9 := by simp [f_X1_init, x_up]
      have e15 : f_X1_init (x_zr σ 1 nC) nC a b d 1 nC 5 = 0 := by simp [f_X1_init, x_up]
      have e16 : f_X1_init (x_zr σ 1 nC) nC a b d 1 nC 6 = -1 := by simp [f_X1_init, x_up]
      have hXk : ∀ x y z, ¬ ((x = 1 ∨ x = 10) ∧ y = nC) → f_X1_init (x_zr σ 1 nC) nC a b d x y z = σ x y z := fun x y z q => f_X1_k q
      have hσ7 : x_M7 σ σ' := by
        by_cases hbl : (f_bt (f_X1_init (x_zr σ 1 nC) nC a b d) nC f nB 9 1 (-1) 400).1 = -1
        · obtain ⟨_, _, rfl⟩ := hc2 h30 hbl
          exact fun x y z q => hXk x y z (by omega)
        · obtain ⟨_, _, rfl⟩ := hc1 h30 hbl
          exact fun x y z q => by rw [x_up_n (by omega), f_sd_kk _ _ _ _ _ _ _ (by omega) (by omega)]; exact hXk x y z (by omega)
      refine ⟨hag, hσ7.o r, fun r' v hv => ?_⟩
      obtain ⟨e1, rfl⟩ := hv.1 hP
      have ek : ∀ x y z, 36 ≤ x → x_up (x_up σ' 8 0 0 r) 7 0 0 0 x y z = σ x y z := fun x y z q => by rw [x_up_n (by omega), x_up_n (by omega)]; exact hσ7 x y z (Or.inr q)
      have hRW : RW (f_X1_init (x_zr σ 1 nC) nC a b d) (x_up (x_up σ' 8 0 0 r) 7 0 0 0) nB (12 * nC + 0) := by
        obtain ⟨e, z, t, i, hb, k3, k4, m⟩ := RW.of hh.B hh.M
        have ec : ∀ x, m_cnt (x_up (x_up σ' 8 0 0 r) 7 0 0 0) x nB = m_cnt σ x nB := fun x => m_cnt_cong nB (fun q _ => ek 46 0 q (by omega))
        refine ⟨fun j q hj hq => ?_, fun j hj => ?_, fun j hj => ?_, fun j hj => ?_, fun j hj => ?_, ?_, ?_, fun j q hj hq => ?_⟩
        · rw [hXk 0 _ _ (by omega), ek _ _ _ (by omega)]; exact e j q hj hq
        · rw [hXk 0 _ _ (by omega)]; exact z j hj
        · rw [hXk 0 _ _ (by omega)]; exact t j hj
        · rw [hXk 0 _ _ (by omega)]; exact i j hj
        · rw [hXk 0 _ _ (by omega), hXk 0 _ _ (by omega)]; exact hb j hj
        · rw [hXk 6 _ _ (by omega), ec]; exact k3
        · rw [ec]; exact k4
        · rw [hXk 3 _ _ (by omega), ek _ _ _ (by omega)]; exact m j q hj hq
      have hbt := hRW.bt hB0 (sp := f) e10 e11 e12 9 1 (-1) 400 (-1) 0 (by decide) (by decide) (Or.inl ⟨rfl, rfl, rfl⟩)
      rw [m_card, if_neg (by omega)] at e1
      rw [m_card, if_neg (show ¬ nC = 30 by omega)]
      rcases hbt with ⟨r1, r2, r3⟩ | ⟨t0, b0, g1, g2, g3, g4, g5, g6, g7, g8, g9⟩
      · obtain ⟨rfl, rfl, rfl⟩ := hc2 h30 r1
        rw [if_pos r3] at e1
        rw [if_pos r3]
        refine ⟨show x_up (x_up (f_X1_init (x_zr σ 1 m') m' a b d) 8 0 0 (-1)) 7 0 0 0 7 0 0 = 0 from x_up_s, fun _ => Eq.trans (show x_up (x_up (f_X1_init (x_zr σ 1 m') m' a b d) 8 0 0 (-1)) 7 0 0 0 8 0 0 = -1 from x_t8) e1.symm, hh.nocard (fun x y z q1 q2 => ?_)⟩
        dsimp only
        rw [x_up_n (by omega), x_up_n (by omega)]
        exact hXk x y z q1
      · have hn1 : ¬ (f_bt (f_X1_init (x_zr σ 1 nC) nC a b d) nC f nB 9 1 (-1) 400).1 = -1 := by rw [g4]; exact nI_m1 (by omega)
        obtain ⟨rfl, rfl, hσ'⟩ := hc1 h30 hn1
        rw [g4] at hσ'
        have hn2 : ¬ (m_ft (x_up (x_up σ' 8 0 0 (nI nC)) 7 0 0 0) a b d f nB 9 1 (-1) 0).1 = -1 := by rw [g7]; exact nI_m1 (by omega)
        rw [if_neg hn2] at e1
        rw [if_neg hn2, g7, g5, x_cn (by omega)]
        obtain ⟨_, _, _, hnofit, eb0⟩ := m_fc_f (σ := x_up (x_up σ' 8 0 0 (nI nC)) 7 0 0 0) (s1 := a) (s2 := b) (s3 := d) (t := nI t0) (sp := f) nB 0 (-1) (by omega)
        have eb : (_ : Nat) = b0 := (nI_eq (by omega) (by omega)).mp (eb0.symm.trans g9)
        subst eb
        rename_i b0 hb0a hb0b
        have hfr : 12 ≤ 0 + m_fr (x_up (x_up σ' 8 0 0 (nI nC)) 7 0 0 0) a b d (nI t0) f (nB - b0) b0 := by
          have := (m_fc_n (σ := x_up (x_up σ' 8 0 0 (nI nC)) 7 0 0 0) (s1 := a) (s2 := b) (s3 := d) (t := nI t0) (sp := f) nB 0 0 (-1)).1
          rw [this] at g8
          have hs := m_fr_skip (β := x_up (x_up σ' 8 0 0 (nI nC)) 7 0 0 0) (s1 := a) (s2 := b) (s3 := d) (t := nI t0) (sp := f) b0 (nB - b0) 0 (fun q q1 q2 => hnofit q q1 (by omega))
          rw [show b0 + (nB - b0) = nB by omega, Nat.zero_add] at hs
          rw [hs] at g8
          exact g8
        have hsd := RV.sd (nB := nB) (nC := nC) (n4 := 12 * nC) (a := a) (b := b) (d := d) (sp := f) (t := nI t0) hB0 (nB - b0) b0 0 _ _ (by omega) (by decide) ⟨hRW, fun q hq => absurd hq (Nat.not_lt_zero _), by rw [if_pos rfl]; exact e14, by rw [if_pos rfl]; exact e15, e10, e11, e12, by rw [hXk 6 0 6 (by omega)]; exact hh.K.C⟩ hfr
        have hskip := f_sd_skip (nC := nC) (x := nI t0) (y := nI t0 + f) b0 (nB - b0) 0 (f_X1_init (x_zr σ 1 nC) nC a b d) e10 e11 e12 (fun q q1 q2 w => hnofit q q1 (by omega) ((hRW.fit (show q < nB by omega) a b d (nI t0) f).mp w))
        rw [show b0 + (nB - b0) = nB by omega, Nat.zero_add] at hskip
        rw [← hskip] at hsd
        have hαk : ∀ x y z, ¬ (x = 0 ∧ (z = 5 ∨ z = 8)) → ¬ ((x = 1 ∨ x = 10) ∧ y = nC) → f_sd nC (nI t0) (nI t0 + f) nB 0 0 (f_X1_init (x_zr σ 1 nC) nC a b d) x y z = σ x y z := fun x y z q1 q2 => by rw [f_sd_kk _ _ _ _ _ _ _ q1 q2]; exact hXk x y z q2
        have hα16 : f_sd nC (nI t0) (nI t0 + f) nB 0 0 (f_X1_init (x_zr σ 1 nC) nC a b d) 1 nC 6 = -1 := by rw [f_sd_16]; exact e16
        generalize f_sd nC (nI t0) (nI t0 + f) nB 0 0 (f_X1_init (x_zr σ 1 nC) nC a b d) = α at hsd hσ' hαk hα16
        have hβk : ∀ x y z, ¬ (x = 46 ∨ x = 49) → ¬ (x = 59 ∧ 12 * nC ≤ z) → m_cs a b d (nI t0) f nC (nB - b0) b0 0 (x_up (x_up σ' 8 0 0 (nI nC)) 7 0 0 0) x y z = x_up (x_up σ' 8 0 0 (nI nC)) 7 0 0 0 x y z := fun x y z q1 q2 => m_cs_kk _ _ _ _ _ _ _ q1 q2
        generalize m_cs a b d (nI t0) f nC (nB - b0) b0 0 (x_up (x_up σ' 8 0 0 (nI nC)) 7 0 0 0) = β at hsd hβk ⊢
        obtain ⟨hw, ho, hx4, hx5, k0, k1, k2, k6⟩ := hsd
        rw [if_neg (by decide)] at hx4 hx5
        dsimp only
        have hvβ : ∀ x y z, ¬ ((x = 55 ∨ x = 56 ∨ x = 57 ∨ x = 58) ∧ z = nC) → ¬ (x = 7 ∧ z = 3) → m_cd β a b d nC x y z = β x y z := fun x y z q1 q2 => by
          rw [m_cd, x_up_n (by omega), x_up_n (by omega), x_up_n (by omega), x_up_n (by omega), x_up_n (by omega)]
        have hv55 : m_cd β a b d nC 55 0 nC = a ∧ m_cd β a b d nC 56 0 nC = b ∧ m_cd β a b d nC 57 0 nC = d ∧ m_cd β a b d nC 58 0 nC = -1 ∧ m_cd β a b d nC 7 0 3 = nI (nC + 1) := by simp [m_cd, x_up]
        generalize m_cd β a b d nC = v at hvβ hv55 ⊢
        obtain ⟨v55, v56, v57, v58, v73⟩ := hv55
        have hvc : ∀ x y z, ¬ (36 ≤ x) → ¬ (x = 7 ∧ (z = 3 ∨ z = 0)) → ¬ (x = 8 ∨ (x = 6 ∧ z = 6)) → v x y z = α x y z := fun x y z q1 q2 q3 => by
          rw [hvβ x y z (by omega) (by omega), hβk x y z (by omega) (by omega), x_up_n (by omega), x_up_n (by omega), hσ', x_up_n (by omega)]
        have hvm : ∀ x y z, 36 ≤ x → ¬ (x = 46 ∨ x = 49) → ¬ (x = 59 ∧ 12 * nC ≤ z) → ¬ ((x = 55 ∨ x = 56 ∨ x = 57 ∨ x = 58) ∧ z = nC) → v x y z = σ x y z := fun x y z q0 q1 q2 q3 => by
          rw [hvβ x y z q3 (by omega), hβk x y z q1 q2]; exact ek x y z q0
        have hvs : ∀ x y z, ¬ (x = 0 ∧ (z = 5 ∨ z = 8)) → ¬ ((x = 1 ∨ x = 10) ∧ y = nC) → ¬ (36 ≤ x) → ¬ (x = 7 ∧ (z = 3 ∨ z = 0)) → ¬ (x = 8 ∨ (x = 6 ∧ z = 6)) → v x y z = σ x y z := fun x y z q1 q2 q3 q4 q5 => by rw [hvc x y z q3 q4 q5]; exact hαk x y z q1 q2
        have v66 : v 6 0 6 = nI (nC + 1) := by rw [hvβ 6 0 6 (by omega) (by omega), hβk 6 0 6 (by omega) (by omega), x_up_n (by omega), x_up_n (by omega), hσ', x_up_s]
        have v70 : v 7 0 0 = 0 := by rw [hvβ 7 0 0 (by omega) (by omega), hβk 7 0 0 (by omega) (by omega), x_up_s]
        have v80 : v 8 0 0 = nI nC := by rw [hvβ 8 0 0 (by omega) (by omega), hβk 8 0 0 (by omega) (by omega), x_t8]
        refine ⟨v70, fun _ => by rw [v80, e1], ?_⟩
        have hw12 : RW α β nB (12 * (nC + 1)) := by rw [show 12 * (nC + 1) = 12 * nC + 12 by omega]; exact hw
        obtain ⟨hb, hm⟩ := hw12.to (v := v) (fun x y z q => hvc x y z (by omega) (by omega) (by omega)) (hvc 6 0 12 (by omega) (by omega) (by omega)) (fun x y z q => hvβ x y z (by omega) (by omega))
        refine ⟨⟨?_, hh.K.S0, ?_, ?_, hh.K.B0, ?_, v66, by omega, v73, ?_, hh.K.O0, ?_, ?_⟩, hh.S.up.mv (fun x y z q => ?_), hb, hm, ⟨?_, ?_, ?_⟩, hh.O.mv (fun x y z q => ?_)⟩
        · rw [hvs 6 0 1 (by omega) (by omega) (by omega) (by omega) (by omega)]; exact hh.K.S
        · rw [hvs 7 0 1 (by omega) (by omega) (by omega) (by omega) (by omega)]; exact hh.K.S7
        · rw [hvs 6 0 3 (by omega) (by omega) (by omega) (by omega) (by omega)]; exact hh.K.B
        · rw [hvs 7 0 2 (by omega) (by omega) (by omega) (by omega) (by omega)]; exact hh.K.B7
        · rw [hvs 6 0 8 (by omega) (by omega) (by omega) (by omega) (by omega)]; exact hh.K.O
        · rw [hvs 7 0 4 (by omega) (by omega) (by omega) (by omega) (by omega)]; exact hh.K.O7
        · rw [hvs 7 0 5 (by omega) (by omega) (by omega) (by omega) (by omega), hvs 6 0 13 (by omega) (by omega) (by omega) (by omega) (by omega)]; exact hh.K.P
        · rcases Nat.lt_or_ge x 36 with w | w
          · exact hvs x y z (by omega) (by omega) (by omega) (by omega) (by omega)
          · exact hvm x y z w (by omega) (by omega) (by omega)
        · intro c hc
          by_cases w : c = nC
          · subst w
            rw [v55, v56, v57, v58, hvc 1 c 0 (by omega) (by omega) (by omega), hvc 1 c 1 (by omega) (by omega) (by omega), hvc 1 c 2 (by omega) (by omega) (by omega), hvc 1 c 6 (by omega) (by omega) (by omega)]
            exact ⟨k0.symm, k1.symm, k2.symm, hα16.symm⟩
          · rw [hvm 55 0 c (by omega) (by omega) (by omega) (by omega), hvm 56 0 c (by omega) (by omega) (by omega) (by omega), hvm 57 0 c (by omega) (by omega) (by omega) (by omega), hvm 58 0 c (by omega) (by omega) (by omega) (by omega), hvs 1 c 0 (by omega) (by omega) (by omega) (by omega) (by omega), hvs 1 c 1 (by omega) (by omega) (by omega) (by omega) (by omega), hvs 1 c 2 (by omega) (by omega) (by omega) (by omega) (by omega), hvs 1 c 6 (by omega) (by omega) (by omega) (by omega) (by omega)]
            exact hh.C.e c (by omega)
        · intro c k hc hk
          by_cases w : c = nC
          · subst w
            rw [hvβ 59 0 _ (by omega) (by omega), hvc 10 c k (by omega) (by omega) (by omega)]
            exact ho k hk
          · rw [hvm 59 0 _ (by omega) (by omega) (by omega) (by omega), hvs 10 c k (by omega) (by omega) (by omega) (by omega) (by omega)]
            exact hh.C.o c k (by omega) hk
        · intro c hc
          by_cases w : c = nC
          · subst w
            have e : ∀ x, m_ext v x c 12 = m_ext β x c 12 := fun x => m_ext_cong (fun q _ => ⟨hvβ 59 0 _ (by omega) (by omega), hvβ 43 0 _ (by omega) (by omega)⟩) 12 (Nat.le_refl _)
            rw [e, e, hvc 1 c 4 (by omega) (by omega) (by omega), hvc 1 c 5 (by omega) (by omega) (by omega)]
            exact ⟨hx4, hx5⟩
          · have e : ∀ x, m_ext v x c 12 = m_ext σ x c 12 := fun x => m_ext_cong (fun q hq => ⟨hvm 59 0 _ (by omega) (by omega) (by omega) (by omega), hvm 43 0 _ (by omega) (by omega) (by omega) (by omega)⟩) 12 (Nat.le_refl _)
            rw [e, e, hvs 1 c 4 (by omega) (by omega) (by omega) (by omega) (by omega), hvs 1 c 5 (by omega) (by omega) (by omega) (by omega) (by omega)]
            exact hh.C.x c (by omega)
        · rcases Nat.lt_or_ge x 36 with w | w
          · exact hvs x y z (by omega) (by omega) (by omega) (by omega) (by omega)
          · exact hvm x y z w (by omega) (by omega) (by omega)
    · obtain ⟨rfl, rfl, hσ⟩ := hc3 h30
      replace hσ := hσ.symm; subst hσ
      refine ⟨hag, (x_M7.rf σ).o _, fun r' v hv => ?_⟩
      obtain ⟨e1, rfl⟩ := hv.1 hP
      rw [m_card, if_pos (by omega)] at e1 ⊢
      exact ⟨show x_up (x_up σ 8 0 0 (-1)) 7 0 0 0 7 0 0 = 0 from x_up_s, fun _ => Eq.trans (show x_up (x_up σ 8 0 0 (-1)) 7 0 0 0 8 0 0 = -1 from x_t8) e1.symm, hh.rd _ _⟩
  · obtain ⟨rfl, rfl, hσ⟩ : ad' = ad ∧ m' = nC ∧ τ = σ := by
      have := Prod.mk.inj he
      have := Prod.mk.inj this.2
      exact ⟨by simp_all, by simp_all, by simp_all⟩
    replace hσ := hσ.symm; subst hσ
    refine ⟨fun _ _ _ => rfl, x_M7.rf σ, fun r' v hv => ?_⟩
    rw [hv.2 hP]
    exact ⟨x_up_s, fun q => absurd q (by decide), hh.rd0 _⟩
