def m_cf (τ : x_St) : Nat → Nat → Nat
  | 0, _ => 0
  | f + 1, p => (if τ 69 0 p = 0 then 0 else 1) + m_cf τ f (p + 1)
theorem m_cf_le (τ : x_St) : ∀ f p, m_cf τ f p ≤ f
  | 0, _ => Nat.le_refl _
  | f + 1, p => by
    have := m_cf_le τ f (p + 1)
    rw [m_cf]
    split <;> omega
theorem m_wr_k {σ τ : x_St} {sh R C pl z a b d : Nat} (h1 : a ≠ 69) (h2 : ¬ (a = 7 ∧ (d = 40 ∨ d = 41))) : m_wr σ sh R C pl z τ a b d = τ a b d := by
  rw [m_wr]
  split
  · exact x_up_n (fun q => h1 q.1)
  · rw [x_up_n (fun q => h2 ⟨q.1, Or.inr q.2.2⟩), x_up_n (fun q => h2 ⟨q.1, Or.inl q.2.2⟩), x_up_n (fun q => h1 q.1)]
theorem m_wr_t {σ τ : x_St} {sh R C pl z q : Nat} : m_wr σ sh R C pl z τ 69 0 q = if q = pl then nI z else τ 69 0 q := by
  rw [m_wr]
  split
  · simp [x_up]
  · simp [x_up]
theorem m_wr_40 {σ τ : x_St} {sh R C pl z : Nat} : m_wr σ sh R C pl z τ 7 0 40 = τ 7 0 40 + nI (if z = 0 then 0 else 1) := by
  rw [m_wr]
  split
  · rw [x_up_n (by simp)]; exact (Int32.add_zero _).symm
  · rw [x_up_n (by simp), x_up_s]; rfl
theorem m_fw_k {σ : x_St} {sh R C : Nat} : ∀ (f kk : Nat) (τ : x_St) (a b d : Nat), a ≠ 69 → ¬ (a = 7 ∧ (d = 40 ∨ d = 41)) → m_fw σ sh R C f kk τ a b d = τ a b d
  | 0, _, _, _, _, _, _, _ => rfl
  | f + 1, kk, τ, a, b, d, h1, h2 => by rw [m_fw, m_fw_k f _ _ a b d h1 h2, m_wr_k h1 h2]
theorem m_fw_t {σ : x_St} {sh R C : Nat} : ∀ (f kk : Nat) (τ : x_St) (q : Nat), f ≤ R * C → q < R * C - f → m_fw σ sh R C f kk τ 69 0 q = τ 69 0 q
  | 0, _, _, _, _, _ => rfl
  | f + 1, kk, τ, q, h1, h2 => by rw [m_fw, m_fw_t f _ _ q (by omega) (by omega), m_wr_t, if_neg (by omega)]
theorem m_chz_3 (σ : x_St) (sh R C f kk : Nat) : m_chz σ sh R C f kk ≤ 3 := by
  rw [m_chz, m_ch]
  split
  · exact Nat.le_refl _
  · split
    · decide
    · split <;> decide
theorem m_fw_told {σ : x_St} {sh R C : Nat} : ∀ (f kk : Nat) (τ : x_St) (q : Nat), f ≤ R * C → R * C - f ≤ q → q < R * C → ∃ z, z ≤ 3 ∧ m_fw σ sh R C f kk τ 69 0 q = nI z
  | 0, _, _, _, _, h1, h2 => by omega
  | f + 1, kk, τ, q, h0, h1, h2 => by
    rw [m_fw]
    by_cases hq : q = R * C - (f + 1)
    · refine ⟨m_chz σ sh R C f kk, m_chz_3 _ _ _ _ _ _, ?_⟩
      rw [m_fw_t f _ _ q (by omega) (by omega), m_wr_t, if_pos hq]
    · exact m_fw_told f _ _ q (by omega) (by omega) h2
theorem m_fw_cnt {σ : x_St} {sh R C : Nat} : ∀ (f kk : Nat) (τ : x_St), f ≤ R * C → m_fw σ sh R C f kk τ 7 0 40 = τ 7 0 40 + nI (m_cf (m_fw σ sh R C f kk τ) f (R * C - f))
  | 0, _, _, _ => (Int32.add_zero _).symm
  | f + 1, kk, τ, h => by
    rw [m_cf]
    have ht : m_fw σ sh R C (f + 1) kk τ 69 0 (R * C - (f + 1)) = nI (m_chz σ sh R C f kk) := by
      rw [m_fw, m_fw_t f _ _ _ (by omega) (by omega), m_wr_t, if_pos rfl]
    rw [ht]
    have h3 := m_chz_3 σ sh R C f kk
    rw [m_fw, m_fw_cnt f _ _ (by omega), m_wr_40, Int32.add_assoc, nI_add, show R * C - (f + 1) + 1 = R * C - f by omega]
    congr 3
    by_cases hz : m_chz σ sh R C f kk = 0
    · rw [if_pos hz, hz]
      exact (if_pos nI_0).symm
    · rw [if_neg hz, if_neg (nI_ne0 (by omega) (by omega))]
theorem m_fd_keep {σ τ σ1 : x_St} {i : Nat} (h : τ = m_fd σ i σ1) : ∀ a b d, a ≠ 69 → ¬ (a = 7 ∧ (d = 40 ∨ d = 41)) → τ a b d = x_up (x_up σ1 7 0 40 0) 7 0 41 0 a b d := fun a b d h1 h2 => by
  rw [h, m_fd, m_fw_k _ _ _ a b d h1 h2]
theorem m_fd_cnt {σ τ σ1 : x_St} {i R C : Nat} (h : τ = m_fd σ i σ1) (hR : R = x_c (σ 36 0 i)) (hC : C = x_c (σ 37 0 i)) : τ 7 0 40 = nI (m_cf τ (R * C) 0) := by
  subst hR; subst hC
  rw [h, m_fd, m_fw_cnt _ _ _ (Nat.le_refl _), Nat.sub_self, x_up_n (by simp), x_up_s]
  exact Int32.zero_add _
theorem m_fd_told {σ τ σ1 : x_St} {i R C : Nat} (h : τ = m_fd σ i σ1) (hR : R = x_c (σ 36 0 i)) (hC : C = x_c (σ 37 0 i)) : ∀ q, q < R * C → ∃ z, z ≤ 3 ∧ τ 69 0 q = nI z := by
  subst hR; subst hC
  intro q hq
  rw [h, m_fd]
  exact m_fw_told _ _ _ q (Nat.le_refl _) (by omega) hq
def m_fl (a : Int32) (i R C pl m : Nat) (σ : x_St) : x_St :=
  x_up (x_up (x_up (x_up (x_up (x_up (x_up (x_up (x_up (x_up σ 42 0 m (σ 69 0 pl)) 43 0 m (m_th (m_G σ i C) R C pl (x_c (σ 69 0 pl)))) 44 0 m (σ 38 0 i)) 45 0 m a) 46 0 m 0) 47 0 m 0) 48 0 m (-1)) 49 0 m (-1)) 50 0 m (nI pl)) 7 0 2 (nI (m + 1))
theorem m_fl_k {a : Int32} {i R C pl m k b d : Nat} {σ : x_St} (h : k ≠ 7) (h2 : k < 42 ∨ 50 < k) : m_fl a i R C pl m σ k b d = σ k b d := by
  unfold m_fl
  rw [x_up_n (by omega), x_up_n (by omega), x_up_n (by omega), x_up_n (by omega), x_up_n (by omega), x_up_n (by omega), x_up_n (by omega), x_up_n (by omega), x_up_n (by omega), x_up_n (by omega)]
theorem m_fl_40 {a : Int32} {i R C pl m : Nat} {σ : x_St} : m_fl a i R C pl m σ 7 0 40 = σ 7 0 40 := by
  simp [m_fl, x_up]
def m_cu (a : Int32) (i R C : Nat) : Nat → Nat → Nat → x_St → x_St
  | 0, _, _, σ => σ
  | f + 1, pl, m, σ => if σ 69 0 pl = 0 then m_cu a i R C f (pl + 1) m σ else m_cu a i R C f (pl + 1) (m + 1) (m_fl a i R C pl m σ)

/-- X7_cut -/
def q_X7_cut (σ : x_St) (a : Int32) (nB : Nat) : Int32 → x_St → Prop := fun r σ' => (¬ (0 ≤ a ∧ a < σ 7 0 1) → σ' = x_up σ 7 0 0 1) ∧ ((0 ≤ a ∧ a < σ 7 0 1) → ¬ σ 40 0 (x_c a) = 0 → r = -1 ∧ σ' = x_up σ 7 0 0 0) ∧ ((0 ≤ a ∧ a < σ 7 0 1) → σ 40 0 (x_c a) = 0 → ∃ τ : x_St, (∃ σ1 : x_St, (∀ x y d, x ≠ 68 → σ1 x y d = x_up σ 7 0 0 0 x y d) ∧ τ = m_fd (x_up σ 7 0 0 0) (x_c a) σ1) ∧ (¬ σ 7 0 2 + τ 7 0 40 ≤ 400 → r = -1 ∧ σ' = τ) ∧ (σ 7 0 2 + τ 7 0 40 ≤ 400 → r = τ 7 0 40 ∧ σ' = m_cu a (x_c a) (x_c (σ 36 0 (x_c a))) (x_c (σ 37 0 (x_c a))) ((x_c (σ 36 0 (x_c a))) * (x_c (σ 37 0 (x_c a)))) 0 nB (x_up τ 40 0 (x_c a) 1)))
set_option maxHeartbeats 4000000 in
set_option maxRecDepth 100000 in
theorem c_X7_cut {l : Launch} {D : va_G} {cs : Nat → ClassId} {base : Nat} {ad : Nat → Nat → Nat} {n st : Nat → Nat} {σ : x_St} (a : Int32) (nS : Nat) (hS : σ 7 0 1 = nI nS) (hS0 : nS ≤ 30) (nB : Nat) (hB : σ 7 0 2 = nI nB) (hB0 : nB ≤ 400) (hok : ∀ i, i < nS → m_fk σ i) (h7 : 0 < n 7) (hm : ∀ k, 36 ≤ k → k < 70 → 0 < n k ∧ 0 < st (100 + k)) : x_Ci l yX7_cut cX7_cut 3 (some .int) 4 0 0 D cs base ad n st σ [.ref (ad 7 0), .int a] (q_X7_cut σ a nB) (fun σ' => x_U D cs base ad n st σ') := by
  refine Met.ofW (cc := cX7_cut) (maxL := 3) (ret := some .int) (by decide) rfl ?_
  intro p e s m args below meth c s₁ B hml hv
  obtain ⟨rfl, hU⟩ := hv
  have hx := B.exec
  have hb := B.bytes
  have hr := B.returns
  have hts := atoms_spec (ws := Cond.code yX7_cut cX7_cut 3 (some .int) :: Tw) B.pre
  have hown : s.vm.findClass RX7 = some m.cls := findClass_of_methodNamed B.named
  have hlocks := B.notSynchronized
  have hc : CallFix p m c cX7_cut 3 s (([.ref (ad 7 0), .int a] : List Value).toArray) Tw RX7 := ⟨hx, hb, hml, hown, fun w hw => hts w (List.mem_cons_of_mem _ hw)⟩
  have hw := x_B.start hU
  have hl := lv_entry ([.ref (ad 7 0), .int a]) (n := 3) (Nat.le_of_ble_eq_true rfl)
  rw [lg_entry_eq]
  generalize (lg_sl ([.ref (ad 7 0), .int a]) ++ List.replicate (3 - (lg_sl ([.ref (ad 7 0), .int a])).length) Slot.unset).toArray = ls at hl ⊢
  have hl : lv_has ls 3 [(0, .ref (ad 7 0)), (1, .int a)] := hl
  show W p l e (x_rm 4 0 0) s m ([.ref (ad 7 0), .int a] : List Value).toArray below meth c s.heap [] 0 0 (MQ below (va_Qi (q_X7_cut σ a nB) (fun σ' => x_U D cs base ad n st σ') (x_A base)) ([.ref (ad 7 0), .int a] : List Value).toArray s 0 0 (x_A base)) (F0 m 0 ls [])
  refine lv_aload_n hx hb dX7_cut_0 rfl (lv_at hl 0 rfl) ?_
  refine lv_iload_n hx hb dX7_cut_1 rfl (lv_at hl 1 rfl) ?_
  refine xc_Vi hc hw 7 0 (c_X7_isShell a h7 hm) rfl rfl (h7) mw_830 mw_827 mw_4 mw_829 mp_19 xd_X7_isShell ⟨by decide, by decide⟩ (rfl) hl.1 (Nat.le_of_ble_eq_true rfl) dX7_cut_2 ⟨Nat.le_of_ble_eq_true rfl, Nat.le_of_ble_eq_true rfl⟩ (fun r_2 σ_2 H locs hq hw => ?_)
  have hq_2 := hq
  obtain ⟨hr_2, hσ_2⟩ := hq_2
  refine lv_if_eq (tgt := 17) hx hb dX7_cut_5 (by decide) (fun c_5 => ?_) (fun c_5 => ?_)
  · refine lv_aload_n hx hb dX7_cut_17 rfl (lv_at hl 0 rfl) ?_
    refine lv_iconst (v := (-1)) hx hb dX7_cut_18 (by decide) ?_
    refine xc_Vi hc hw 7 0 (c_X7_isPassed (-1) h7 hm) rfl rfl (h7) mw_871 mw_868 mw_4 mw_870 mp_25 xd_X7_isPassed ⟨by decide, by decide⟩ (rfl) hl.1 (Nat.le_of_ble_eq_true rfl) dX7_cut_19 ⟨Nat.le_of_ble_eq_true rfl, Nat.le_of_ble_eq_true rfl⟩ (fun r_19 σ_19 H locs hq hw => ?_)
    obtain ⟨hσ_19, hr_19⟩ := hq
    rw [hσ_19] at hw
    exact xr_i hc hlocks hr rfl hw (⟨fun _ => by rw [hσ_2, if_neg (x_if0 hr_2 c_5)], fun h => absurd h (x_if0 hr_2 c_5), fun h => absurd h (x_if0 hr_2 c_5)⟩) (Nat.le_of_ble_eq_true rfl) (Nat.le_of_ble_eq_true rfl) dX7_cut_22
  · have hP := x_if1 hr_2 c_5
    rw [if_pos hP] at hσ_2
    rw [hσ_2] at hw
    have ea := (x_ix hP.1 hP.2 hS (by omega)).1
    refine lv_aload_n hx hb dX7_cut_8 rfl (lv_at hl 0 rfl) ?_
    refine xg_r hc hw 7 0 10 rfl rfl rfl rfl (by decide) (h7) ((hm 40 (by decide) (by decide)).2) mw_697 dX7_cut_9 ?_
    refine lv_iload_n hx hb dX7_cut_12 rfl (lv_at hl 1 rfl) ?_
    refine xa_zld hc hw 40 0 (x_c a) rfl ((hm 40 (by decide) (by decide)).1) (ea) (Nat.lt_of_lt_of_le (x_ix hP.1 hP.2 hS (by omega)).2 hS0) dX7_cut_13 ?_
    refine lv_if_eq (tgt := 23) hx hb dX7_cut_14 (by decide) (fun c_14 => ?_) (fun c_14 => ?_)
    · obtain ⟨ok1, ok2, ok3, ok4, ok5, ok6, ok7⟩ := m_fk_up (j := 0) (v := 0) (hok (x_c a) (x_ix hP.1 hP.2 hS (by omega)).2)
      refine lv_aload_n hx hb dX7_cut_23 rfl (lv_at hl 0 rfl) ?_
      refine lv_iload_n hx hb dX7_cut_24 rfl (lv_at hl 1 rfl) ?_
      refine xc_Vv hc hw 7 0 (c_X7_finds (x_c a) (x_c (x_up σ 7 0 0 0 37 0 (x_c a))) (Nat.lt_of_lt_of_le (x_ix hP.1 hP.2 hS (by omega)).2 hS0) ok1 ok2 ok3 (x_c (x_up σ 7 0 0 0 36 0 (x_c a))) ok4 ok5 ok6 ok7 h7 hm) rfl rfl (h7) mw_846 mw_843 mw_4 mw_845 mp_21 xd_X7_finds ⟨by decide, by decide⟩ (by rw [← ea]; rfl) hl.1 (Nat.le_of_ble_eq_true rfl) dX7_cut_25 ⟨Nat.le_of_ble_eq_true rfl, Nat.le_of_ble_eq_true rfl⟩ (fun σ_25 H locs hq hw => ?_)
      have hq_25 := hq
      replace hq_25 : (∃ σ1 : x_St, (∀ x y d, x ≠ 68 → σ1 x y d = x_up σ 7 0 0 0 x y d) ∧ σ_25 = m_fd (x_up σ 7 0 0 0) (x_c a) σ1) := hq_25
      obtain ⟨σ1, hσ1, hτ⟩ := hq_25
      have hτk := m_fd_keep hτ
      have g2 : σ_25 7 0 2 = σ 7 0 2 := (by rw [hτk 7 0 2 (by decide) (by simp), x_up_n (by simp), x_up_n (by simp), hσ1 7 0 2 (by decide)]; exact x_up_n (by simp))
      refine lv_aload_n hx hb dX7_cut_28 rfl (lv_at hl 0 rfl) ?_
      refine xg_i hc hw 7 0 2 rfl rfl rfl rfl (by decide) (h7) mw_689 dX7_cut_29 ?_
      refine lv_aload_n hx hb dX7_cut_32 rfl (lv_at hl 0 rfl) ?_
      refine xg_i hc hw 7 0 40 rfl rfl rfl rfl (by decide) (h7) mw_727 dX7_cut_33 ?_
      refine lv_iadd hx hb dX7_cut_36 ?_
      refine lv_sipush (v := 400) hx hb dX7_cut_37 (by decide) ?_
      refine lv_icmp_le (tgt := 45) hx hb dX7_cut_40 (by decide) (fun c_40 => ?_) (fun c_40 => ?_)
      · have h36 : (x_c (σ 36 0 (x_c a))) * (x_c (σ 37 0 (x_c a))) ≤ 36 := Nat.mul_le_mul ok5 ok3
        have hcf : σ_25 7 0 40 = nI (m_cf σ_25 ((x_c (σ 36 0 (x_c a))) * (x_c (σ 37 0 (x_c a)))) 0) := m_fd_cnt hτ rfl rfl
        have hcf36 : m_cf σ_25 ((x_c (σ 36 0 (x_c a))) * (x_c (σ 37 0 (x_c a)))) 0 ≤ (x_c (σ 36 0 (x_c a))) * (x_c (σ 37 0 (x_c a))) := m_cf_le _ _ _
        have hroom : nB + m_cf σ_25 ((x_c (σ 36 0 (x_c a))) * (x_c (σ 37 0 (x_c a)))) 0 ≤ 400 := (by have w := c_40; rw [g2, hB, hcf, nI_add] at w; exact (nI_leI (by omega) (by decide)).mp (show nI (nB + m_cf σ_25 ((x_c (σ 36 0 (x_c a))) * (x_c (σ 37 0 (x_c a)))) 0) ≤ nI 400 from w))
        have hz3 : ∀ q, q < (x_c (σ 36 0 (x_c a))) * (x_c (σ 37 0 (x_c a))) → ∃ z, z ≤ 3 ∧ σ_25 69 0 q = nI z := m_fd_told hτ rfl rfl
        have h36b : σ_25 36 0 (x_c a) = nI (x_c (σ 36 0 (x_c a))) := (by rw [hτk 36 0 _ (by decide) (by simp), x_up_n (by simp), x_up_n (by simp), hσ1 36 0 _ (by decide)]; exact ok4)
        have h37b : σ_25 37 0 (x_c a) = nI (x_c (σ 37 0 (x_c a))) := (by rw [hτk 37 0 _ (by decide) (by simp), x_up_n (by simp), x_up_n (by simp), hσ1 37 0 _ (by decide)]; exact ok1)
        refine lv_aload_n hx hb dX7_cut_45 rfl (lv_at hl 0 rfl) ?_
        refine xg_r hc hw 7 0 10 rfl rfl rfl rfl (by decide) (h7) ((hm 40 (by decide) (by decide)).2) mw_697 dX7_cut_46 ?_
        refine lv_iload_n hx hb dX7_cut_49 rfl (lv_at hl 1 rfl) ?_
        refine lv_iconst (v := 1) hx hb dX7_cut_50 (by decide) ?_
        refine xa_zst hc hw 40 0 (x_c a) rfl ((hm 40 (by decide) (by decide)).1) (ea) (Nat.lt_of_lt_of_le (x_ix hP.1 hP.2 hS (by omega)).2 hS0) (rfl) dX7_cut_51 (fun H locs hw => ?_)
        refine lv_iconst (v := 0) hx hb dX7_cut_52 (by decide) ?_
        refine lv_istore_n (lv' := [(2, .int 0), (0, .ref (ad 7 0)), (1, .int a)]) hx hb dX7_cut_53 rfl hl (by decide) rfl (fun ls hl => ?_)
        have cut_54 : ∀ (N : Nat) (pl : Nat) (mm : Nat) (x2 : Int32) (σc : x_St), (pl ≤ (x_c (σ 36 0 (x_c a))) * (x_c (σ 37 0 (x_c a)))) → (x2 = nI pl) → (∀ k b d, k = 36 ∨ k = 37 ∨ k = 38 ∨ k = 39 ∨ k = 69 → σc k b d = σ_25 k b d) → (σc 7 0 40 = σ_25 7 0 40) → (σc 7 0 2 = nI mm) → (mm + m_cf σ_25 ((x_c (σ 36 0 (x_c a))) * (x_c (σ 37 0 (x_c a))) - pl) pl ≤ 400) → (m_cu a (x_c a) (x_c (σ 36 0 (x_c a))) (x_c (σ 37 0 (x_c a))) ((x_c (σ 36 0 (x_c a))) * (x_c (σ 37 0 (x_c a))) - pl) pl mm σc = m_cu a (x_c a) (x_c (σ 36 0 (x_c a))) (x_c (σ 37 0 (x_c a))) ((x_c (σ 36 0 (x_c a))) * (x_c (σ 37 0 (x_c a)))) 0 nB (x_up σ_25 40 0 (x_c a) 1)) → ((x_c (σ 36 0 (x_c a))) * (x_c (σ 37 0 (x_c a))) - pl < N) → ∀ (H : Heap) (locs : List Loc) (ls : Array Slot), lv_has ls 3 [(0, .ref (ad 7 0)), (1, .int a), (2, .int x2)] → x_B D cs base ad n st σc s H locs → W p l e (x_rm 4 0 0) s m ([.ref (ad 7 0), .int a] : List Value).toArray below meth c H locs 0 0 (MQ below (va_Qi (q_X7_cut σ a nB) (fun σ' => x_U D cs base ad n st σ') (x_A base)) ([.ref (ad 7 0), .int a] : List Value).toArray s 0 0 (x_A base)) (F0 m 54 ls []) := by
          intro N
          induction N with
          | zero => intro pl mm x2 σc hpe h2 hk hk40 hB1 hbd hI hN; exact absurd hN (Nat.not_lt_zero _)
          | succ N ih_54 =>
            intro pl mm x2 σc hpe h2 hk hk40 hB1 hbd hI hN H locs ls hl hw
            have hRC : σc 36 0 (x_c a) * σc 37 0 (x_c a) = nI ((x_c (σ 36 0 (x_c a))) * (x_c (σ 37 0 (x_c a)))) := (by rw [hk 36 0 _ (by simp), hk 37 0 _ (by simp), h36b, h37b, pk_mul])
            refine lv_iload_n hx hb dX7_cut_54 rfl (lv_at hl 2 rfl) ?_
            refine lv_aload_n hx hb dX7_cut_55 rfl (lv_at hl 0 rfl) ?_
            refine xg_r hc hw 7 0 6 rfl rfl rfl rfl (by decide) (h7) ((hm 36 (by decide) (by decide)).2) mw_693 dX7_cut_56 ?_
            refine lv_iload_n hx hb dX7_cut_59 rfl (lv_at hl 1 rfl) ?_
            refine xa_ld hc hw 36 0 (x_c a) rfl ((hm 36 (by decide) (by decide)).1) (ea) (Nat.lt_of_lt_of_le (x_ix hP.1 hP.2 hS (by omega)).2 hS0) dX7_cut_60 ?_
            refine lv_aload_n hx hb dX7_cut_61 rfl (lv_at hl 0 rfl) ?_
            refine xg_r hc hw 7 0 7 rfl rfl rfl rfl (by decide) (h7) ((hm 37 (by decide) (by decide)).2) mw_694 dX7_cut_62 ?_
            refine lv_iload_n hx hb dX7_cut_65 rfl (lv_at hl 1 rfl) ?_
            refine xa_ld hc hw 37 0 (x_c a) rfl ((hm 37 (by decide) (by decide)).1) (ea) (Nat.lt_of_lt_of_le (x_ix hP.1 hP.2 hS (by omega)).2 hS0) dX7_cut_66 ?_
            refine lv_imul hx hb dX7_cut_67 ?_
            refine lv_icmp_ge (tgt := 210) hx hb dX7_cut_68 (by decide) (fun c_68 => ?_) (fun c_68 => ?_)
            · refine lv_aload_n hx hb dX7_cut_210 rfl (lv_at hl 0 rfl) ?_
              refine xg_i hc hw 7 0 40 rfl rfl rfl rfl (by decide) (h7) mw_727 dX7_cut_211 ?_
              exact xr_i hc hlocks hr rfl hw (⟨fun h => absurd hP h, fun _ h => absurd ((x_up_n (by simp)).symm.trans c_14) h, fun _ _ => ⟨σ_25, ⟨σ1, hσ1, hτ⟩, fun h => absurd (by rw [← g2]; exact c_40) h, fun _ => ⟨hk40, by have hz := x_ge h2 hRC (by omega) (by omega) c_68; rw [show (x_c (σ 36 0 (x_c a))) * (x_c (σ 37 0 (x_c a))) - pl = 0 by omega, m_cu] at hI; exact hI⟩⟩⟩) (Nat.le_of_ble_eq_true rfl) (Nat.le_of_ble_eq_true rfl) dX7_cut_214
            · have hpl : pl < (x_c (σ 36 0 (x_c a))) * (x_c (σ 37 0 (x_c a))) := x_nge h2 hRC (by omega) (by omega) c_68
              have hst : (x_c (σ 36 0 (x_c a))) * (x_c (σ 37 0 (x_c a))) - pl = ((x_c (σ 36 0 (x_c a))) * (x_c (σ 37 0 (x_c a))) - (pl + 1)) + 1 := by omega
              rw [hst, m_cu] at hI
              rw [hst, m_cf, ← hk 69 0 pl (by simp)] at hbd
              refine lv_aload_n hx hb dX7_cut_71 rfl (lv_at hl 0 rfl) ?_
              refine xg_r hc hw 7 0 39 rfl rfl rfl rfl (by decide) (h7) ((hm 69 (by decide) (by decide)).2) mw_726 dX7_cut_72 ?_
              refine lv_iload_n hx hb dX7_cut_75 rfl (lv_at hl 2 rfl) ?_
              refine xa_ld hc hw 69 0 pl rfl ((hm 69 (by decide) (by decide)).1) (h2) (by show _ < 36; omega) dX7_cut_76 ?_
              refine lv_if_ne (tgt := 83) hx hb dX7_cut_77 (by decide) (fun c_77 => ?_) (fun c_77 => ?_)
              · rw [if_neg c_77] at hI hbd
                obtain ⟨z, hz, hz69⟩ := hz3 pl hpl
                have hz69c : σc 69 0 pl = nI z := (hk 69 0 pl (by simp)).trans hz69
                have hmm : mm < 400 := by omega
                refine lv_aload_n hx hb dX7_cut_83 rfl (lv_at hl 0 rfl) ?_
                refine xg_r hc hw 7 0 12 rfl rfl rfl rfl (by decide) (h7) ((hm 42 (by decide) (by decide)).2) mw_699 dX7_cut_84 ?_
                refine lv_aload_n hx hb dX7_cut_87 rfl (lv_at hl 0 rfl) ?_
                refine xg_i hc hw 7 0 2 rfl rfl rfl rfl (by decide) (h7) mw_689 dX7_cut_88 ?_
                refine lv_aload_n hx hb dX7_cut_91 rfl (lv_at hl 0 rfl) ?_
                refine xg_r hc hw 7 0 39 rfl rfl rfl rfl (by decide) (h7) ((hm 69 (by decide) (by decide)).2) mw_726 dX7_cut_92 ?_
                refine lv_iload_n hx hb dX7_cut_95 rfl (lv_at hl 2 rfl) ?_
                refine xa_ld hc hw 69 0 pl rfl ((hm 69 (by decide) (by decide)).1) (h2) (by show _ < 36; omega) dX7_cut_96 ?_
                refine xa_st hc hw 42 0 mm rfl ((hm 42 (by decide) (by decide)).1) (by simp [x_up, hB1]) (hmm) dX7_cut_97 (fun H locs hw => ?_)
                refine lv_aload_n hx hb dX7_cut_98 rfl (lv_at hl 0 rfl) ?_
                refine xg_r hc hw 7 0 13 rfl rfl rfl rfl (by decide) (h7) ((hm 43 (by decide) (by decide)).2) mw_700 dX7_cut_99 ?_
                refine lv_aload_n hx hb dX7_cut_102 rfl (lv_at hl 0 rfl) ?_
                refine xg_i hc hw 7 0 2 rfl rfl rfl rfl (by decide) (h7) mw_689 dX7_cut_103 ?_
                refine lv_aload_n hx hb dX7_cut_106 rfl (lv_at hl 0 rfl) ?_
                refine lv_iload_n hx hb dX7_cut_107 rfl (lv_at hl 1 rfl) ?_
                refine lv_iload_n hx hb dX7_cut_108 rfl (lv_at hl 2 rfl) ?_
                refine lv_aload_n hx hb dX7_cut_109 rfl (lv_at hl 0 rfl) ?_
                refine xg_r hc hw 7 0 39 rfl rfl rfl rfl (by decide) (h7) ((hm 69 (by decide) (by decide)).2) mw_726 dX7_cut_110 ?_
                refine lv_iload_n hx hb dX7_cut_113 rfl (lv_at hl 2 rfl) ?_
                refine xa_ld hc hw 69 0 pl rfl ((hm 69 (by decide) (by decide)).1) (h2) (by show _ < 36; omega) dX7_cut_114 ?_
                refine xc_Vi hc hw 7 0 (c_X7_thickness (x_c a) pl z (x_c (σ 37 0 (x_c a))) (Nat.lt_of_lt_of_le (x_ix hP.1 hP.2 hS (by omega)).2 hS0) (by rw [x_up_n (by simp), hk 37 0 _ (by simp)]; exact h37b) ok2 ok3 (by omega) hz (x_c (σ 36 0 (x_c a))) (by rw [x_up_n (by simp), hk 36 0 _ (by simp)]; exact h36b) ok5 h7 hm) rfl rfl (h7) mw_855 mw_852 mw_4 mw_854 mp_23 xd_X7_thickness ⟨by decide, by decide⟩ (by rw [show x_up σc 42 0 mm (σc 69 0 pl) 69 0 pl = nI z from (x_up_n (by simp)).trans hz69c, h2, ← ea]; rfl) hl.1 (Nat.le_of_ble_eq_true rfl) dX7_cut_115 ⟨Nat.le_of_ble_eq_true rfl, Nat.le_of_ble_eq_true rfl⟩ (fun r_115 σ_115 H locs hq hw => ?_)
                obtain ⟨hσ_115, hr_115⟩ := hq
                rw [hσ_115] at hw
                have e115 : r_115 = m_th (m_G σc (x_c a) (x_c (σ 37 0 (x_c a)))) (x_c (σ 36 0 (x_c a))) (x_c (σ 37 0 (x_c a))) pl (x_c (σc 69 0 pl)) := (by rw [hr_115, hz69c, x_cn (by omega)]; congr 1)
                refine xa_st hc hw 43 0 mm rfl ((hm 43 (by decide) (by decide)).1) (by simp [x_up, hB1]) (hmm) dX7_cut_118 (fun H locs hw => ?_)
                refine lv_aload_n hx hb dX7_cut_119 rfl (lv_at hl 0 rfl) ?_
                refine xg_r hc hw 7 0 14 rfl rfl rfl rfl (by decide) (h7) ((hm 44 (by decide) (by decide)).2) mw_701 dX7_cut_120 ?_
                refine lv_aload_n hx hb dX7_cut_123 rfl (lv_at hl 0 rfl) ?_
                refine xg_i hc hw 7 0 2 rfl rfl rfl rfl (by decide) (h7) mw_689 dX7_cut_124 ?_
                refine lv_aload_n hx hb dX7_cut_127 rfl (lv_at hl 0 rfl) ?_
                refine xg_r hc hw 7 0 8 rfl rfl rfl rfl (by decide) (h7) ((hm 38 (by decide) (by decide)).2) mw_695 dX7_cut_128 ?_
                refine lv_iload_n hx hb dX7_cut_131 rfl (lv_at hl 1 rfl) ?_
                refine xa_ld hc hw 38 0 (x_c a) rfl ((hm 38 (by decide) (by decide)).1) (ea) (Nat.lt_of_lt_of_le (x_ix hP.1 hP.2 hS (by omega)).2 hS0) dX7_cut_132 ?_
                refine xa_st hc hw 44 0 mm rfl ((hm 44 (by decide) (by decide)).1) (by simp [x_up, hB1]) (hmm) dX7_cut_133 (fun H locs hw => ?_)
                refine lv_aload_n hx hb dX7_cut_134 rfl (lv_at hl 0 rfl) ?_
                refine xg_r hc hw 7 0 15 rfl rfl rfl rfl (by decide) (h7) ((hm 45 (by decide) (by decide)).2) mw_702 dX7_cut_135 ?_
                refine lv_aload_n hx hb dX7_cut_138 rfl (lv_at hl 0 rfl) ?_
                refine xg_i hc hw 7 0 2 rfl rfl rfl rfl (by decide) (h7) mw_689 dX7_cut_139 ?_
                refine lv_iload_n hx hb dX7_cut_142 rfl (lv_at hl 1 rfl) ?_
                refine xa_st hc hw 45 0 mm rfl ((hm 45 (by decide) (by decide)).1) (by simp [x_up, hB1]) (hmm) dX7_cut_143 (fun H locs hw => ?_)
                refine lv_aload_n hx hb dX7_cut_144 rfl (lv_at hl 0 rfl) ?_
                refine xg_r hc hw 7 0 16 rfl rfl rfl rfl (by decide) (h7) ((hm 46 (by decide) (by decide)).2) mw_703 dX7_cut_145 ?_
                refine lv_aload_n hx hb dX7_cut_148 rfl (lv_at hl 0 rfl) ?_
                refine xg_i hc hw 7 0 2 rfl rfl rfl rfl (by decide) (h7) mw_689 dX7_cut_149 ?_
                refine lv_iconst (v := 0) hx hb dX7_cut_152 (by decide) ?_
                refine xa_st hc hw 46 0 mm rfl ((hm 46 (by decide) (by decide)).1) (by simp [x_up, hB1]) (hmm) dX7_cut_153 (fun H locs hw => ?_)
                refine lv_aload_n hx hb dX7_cut_154 rfl (lv_at hl 0 rfl) ?_
                refine xg_r hc hw 7 0 17 rfl rfl rfl rfl (by decide) (h7) ((hm 47 (by decide) (by decide)).2) mw_704 dX7_cut_155 ?_
                refine lv_aload_n hx hb dX7_cut_158 rfl (lv_at hl 0 rfl) ?_
                refine xg_i hc hw 7 0 2 rfl rfl rfl rfl (by decide) (h7) mw_689 dX7_cut_159 ?_
                refine lv_iconst (v := 0) hx hb dX7_cut_162 (by decide) ?_
                refine xa_st hc hw 47 0 mm rfl ((hm 47 (by decide) (by decide)).1) (by simp [x_up, hB1]) (hmm) dX7_cut_163 (fun H locs hw => ?_)
                refine lv_aload_n hx hb dX7_cut_164 rfl (lv_at hl 0 rfl) ?_
                refine xg_r hc hw 7 0 18 rfl rfl rfl rfl (by decide) (h7) ((hm 48 (by decide) (by decide)).2) mw_705 dX7_cut_165 ?_
                refine lv_aload_n hx hb dX7_cut_168 rfl (lv_at hl 0 rfl) ?_
                refine xg_i hc hw 7 0 2 rfl rfl rfl rfl (by decide) (h7) mw_689 dX7_cut_169 ?_
                refine lv_iconst (v := (-1)) hx hb dX7_cut_172 (by decide) ?_
                refine xa_st hc hw 48 0 mm rfl ((hm 48 (by decide) (by decide)).1) (by simp [x_up, hB1]) (hmm) dX7_cut_173 (fun H locs hw => ?_)
                refine lv_aload_n hx hb dX7_cut_174 rfl (lv_at hl 0 rfl) ?_
                refine xg_r hc hw 7 0 19 rfl rfl rfl rfl (by decide) (h7) ((hm 49 (by decide) (by decide)).2) mw_706 dX7_cut_175 ?_
                refine lv_aload_n hx hb dX7_cut_178 rfl (lv_at hl 0 rfl) ?_
                refine xg_i hc hw 7 0 2 rfl rfl rfl rfl (by decide) (h7) mw_689 dX7_cut_179 ?_
                refine lv_iconst (v := (-1)) hx hb dX7_cut_182 (by decide) ?_
                refine xa_st hc hw 49 0 mm rfl ((hm 49 (by decide) (by decide)).1) (by simp [x_up, hB1]) (hmm) dX7_cut_183 (fun H locs hw => ?_)
                refine lv_aload_n hx hb dX7_cut_184 rfl (lv_at hl 0 rfl) ?_
                refine xg_r hc hw 7 0 20 rfl rfl rfl rfl (by decide) (h7) ((hm 50 (by decide) (by decide)).2) mw_707 dX7_cut_185 ?_
                refine lv_aload_n hx hb dX7_cut_188 rfl (lv_at hl 0 rfl) ?_
                refine xg_i hc hw 7 0 2 rfl rfl rfl rfl (by decide) (h7) mw_689 dX7_cut_189 ?_
                refine lv_iload_n hx hb dX7_cut_192 rfl (lv_at hl 2 rfl) ?_
                refine xa_st hc hw 50 0 mm rfl ((hm 50 (by decide) (by decide)).1) (by simp [x_up, hB1]) (hmm) dX7_cut_193 (fun H locs hw => ?_)
                refine lv_aload_n hx hb dX7_cut_194 rfl (lv_at hl 0 rfl) ?_
                refine lv_dup hx hb dX7_cut_195 rfl ?_
                refine xg_i hc hw 7 0 2 rfl rfl rfl rfl (by decide) (h7) mw_689 dX7_cut_196 ?_
                refine lv_iconst (v := 1) hx hb dX7_cut_199 (by decide) ?_
                refine lv_iadd hx hb dX7_cut_200 ?_
                refine xp_i hc hw 7 0 2 rfl rfl rfl rfl (by decide) (h7) rfl (ty := .int) (by decide +kernel) rfl rfl mw_689 dX7_cut_201 (fun H locs hw => ?_)
                have hfl : x_up (x_up (x_up (x_up (x_up (x_up (x_up (x_up (x_up (x_up σc 42 0 mm (σc 69 0 pl)) 43 0 mm r_115) 44 0 mm ((x_up (x_up σc 42 0 mm (σc 69 0 pl)) 43 0 mm r_115) 38 0 (x_c a))) 45 0 mm a) 46 0 mm 0) 47 0 mm 0) 48 0 mm (-1)) 49 0 mm (-1)) 50 0 mm x2) 7 0 2 (((x_up (x_up (x_up (x_up (x_up (x_up (x_up (x_up (x_up σc 42 0 mm (σc 69 0 pl)) 43 0 mm r_115) 44 0 mm ((x_up (x_up σc 42 0 mm (σc 69 0 pl)) 43 0 mm r_115) 38 0 (x_c a))) 45 0 mm a) 46 0 mm 0) 47 0 mm 0) 48 0 mm (-1)) 49 0 mm (-1)) 50 0 mm x2) 7 0 2) + 1) = m_fl a (x_c a) (x_c (σ 36 0 (x_c a))) (x_c (σ 37 0 (x_c a))) pl mm σc := (by funext k b d; simp [m_fl, x_up, hB1, nI_1, e115, h2])
                rw [hfl] at hw
                obtain ⟨x2_204, ex2_204⟩ : ∃ y : Int32, y = x2 + 1 := ⟨_, rfl⟩
                refine lv_iinc (v := x2_204) (lv' := [(2, .int x2_204), (0, .ref (ad 7 0)), (1, .int a)]) hx hb dX7_cut_204 hl (k := 2) rfl (by rw [ex2_204]; rfl) (by decide) rfl (fun ls hl => ?_)
                refine lv_goto (tgt := 54) hx hb dX7_cut_207 (by decide) ?_
                exact ih_54 (pl + 1) _ _ _ (by omega) (by rw [ex2_204, h2, nI_1]) (by first | exact hk | (intro k b d h; rw [m_fl_k (by omega) (by omega)]; exact hk k b d h)) (by first | exact hk40 | (rw [m_fl_40]; exact hk40)) (by first | exact hB1 | exact x_up_s) (by first | (rw [if_pos c_77, Nat.zero_add] at hbd; exact hbd) | omega) (by first | (rw [if_pos c_77] at hI; exact hI) | exact hI) (by omega) _ _ _ (lv_sub hl [1, 2, 0] rfl) hw
              · refine lv_goto (tgt := 204) hx hb dX7_cut_80 (by decide) ?_
                obtain ⟨x2_204, ex2_204⟩ : ∃ y : Int32, y = x2 + 1 := ⟨_, rfl⟩
                refine lv_iinc (v := x2_204) (lv' := [(2, .int x2_204), (0, .ref (ad 7 0)), (1, .int a)]) hx hb dX7_cut_204 hl (k := 2) rfl (by rw [ex2_204]; rfl) (by decide) rfl (fun ls hl => ?_)
                refine lv_goto (tgt := 54) hx hb dX7_cut_207 (by decide) ?_
                exact ih_54 (pl + 1) _ _ _ (by omega) (by rw [ex2_204, h2, nI_1]) (by first | exact hk | (intro k b d h; rw [m_fl_k (by omega) (by omega)]; exact hk k b d h)) (by first | exact hk40 | (rw [m_fl_40]; exact hk40)) (by first | exact hB1 | exact x_up_s) (by first | (rw [if_pos c_77, Nat.zero_add] at hbd; exact hbd) | omega) (by first | (rw [if_pos c_77] at hI; exact hI) | exact hI) (by omega) _ _ _ (lv_sub hl [1, 2, 0] rfl) hw
        exact cut_54 _ 0 nB _ _ (Nat.zero_le _) (rfl) (fun k b d h => x_up_n (fun z => by omega)) (x_up_n (by simp)) (by rw [x_up_n (by simp), g2]; exact hB) (hroom) (rfl) (Nat.lt_succ_self _) _ _ _ (lv_sub hl [1, 2, 0] rfl) hw
      · refine lv_iconst (v := (-1)) hx hb dX7_cut_43 (by decide) ?_
        exact xr_i hc hlocks hr rfl hw (⟨fun h => absurd hP h, fun _ h => absurd ((x_up_n (by simp)).symm.trans c_14) h, fun _ _ => ⟨σ_25, ⟨σ1, hσ1, hτ⟩, fun _ => ⟨rfl, rfl⟩, fun h => absurd h (by rw [← g2]; exact c_40)⟩⟩) (Nat.le_of_ble_eq_true rfl) (Nat.le_of_ble_eq_true rfl) dX7_cut_44
    · refine lv_aload_n hx hb dX7_cut_17 rfl (lv_at hl 0 rfl) ?_
      refine lv_iconst (v := (-1)) hx hb dX7_cut_18 (by decide) ?_
      refine xc_Vi hc hw 7 0 (c_X7_isPassed (-1) h7 hm) rfl rfl (h7) mw_871 mw_868 mw_4 mw_870 mp_25 xd_X7_isPassed ⟨by decide, by decide⟩ (rfl) hl.1 (Nat.le_of_ble_eq_true rfl) dX7_cut_19 ⟨Nat.le_of_ble_eq_true rfl, Nat.le_of_ble_eq_true rfl⟩ (fun r_19 σ_19 H locs hq hw => ?_)
      obtain ⟨hσ_19, hr_19⟩ := hq
      rw [hσ_19] at hw
      exact xr_i hc hlocks hr rfl hw (⟨fun h => absurd hP h, fun _ _ => ⟨by rw [hr_19]; exact if_pos x_up_s, rfl⟩, fun _ h => absurd ((x_up_n (by simp)).trans h) c_14⟩) (Nat.le_of_ble_eq_true rfl) (Nat.le_of_ble_eq_true rfl) dX7_cut_22
