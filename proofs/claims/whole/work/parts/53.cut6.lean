theorem f_cs_3 (g : Nat → Int32) : ∀ (f pl k : Nat) (t : Nat → Nat), (∀ q, t q ≤ 3) → ∀ q, f_cs g f pl k t q ≤ 3
  | 0, _, _, _, h => h
  | f + 1, pl, k, t, h => by
    rw [f_cs]
    split
    · exact h
    · refine f_cs_3 g f _ _ _ (fun q => ?_)
      by_cases hq : q = pl
      · rw [if_pos hq]; exact f_cz_3 g pl k
      · rw [if_neg hq]; exact h q
theorem f_w1_k {i own place : Nat} {τ : x_St} {a b d : Nat} (h1 : ¬ (a = 16 ∧ b = i)) (h2 : ¬ (a = 17 ∧ b = i)) (h3 : ¬ (a = 5 ∧ b = i ∧ (d = 7 ∨ d = 8))) : f_w1 i own place τ a b d = τ a b d := by
  rw [f_w1]
  split
  · exact x_up_n (fun q => h1 ⟨q.1, q.2.1⟩)
  · rw [x_up_n (fun q => h3 ⟨q.1, q.2.1, Or.inr q.2.2⟩), x_up_n (fun q => h3 ⟨q.1, q.2.1, Or.inl q.2.2⟩), x_up_n (fun q => h2 ⟨q.1, q.2.1⟩), x_up_n (fun q => h1 ⟨q.1, q.2.1⟩)]
theorem f_wi_k (i C r : Nat) : ∀ (f c : Nat) (τ : x_St) (a b d : Nat), ¬ (a = 16 ∧ b = i) → ¬ (a = 17 ∧ b = i) → ¬ (a = 5 ∧ b = i ∧ (d = 7 ∨ d = 8)) → f_wi i C r f c τ a b d = τ a b d
  | 0, _, _, _, _, _, _, _, _ => rfl
  | f + 1, c, τ, a, b, d, h1, h2, h3 => by rw [f_wi, f_wi_k i C r f _ _ a b d h1 h2 h3, f_w1_k h1 h2 h3]
theorem f_wo9_k (i C : Nat) : ∀ (f r : Nat) (τ : x_St) (a b d : Nat), ¬ (a = 16 ∧ b = i) → ¬ (a = 17 ∧ b = i) → ¬ (a = 5 ∧ b = i ∧ (d = 7 ∨ d = 8)) → f_wo9 i C f r τ a b d = τ a b d
  | 0, _, _, _, _, _, _, _, _ => rfl
  | f + 1, r, τ, a, b, d, h1, h2, h3 => by rw [f_wo9, f_wo9_k i C f _ _ a b d h1 h2 h3, f_wi_k i C r _ _ _ a b d h1 h2 h3]
def f_sk (σ : x_St) (i : Nat) : Prop := σ 5 i 0 = nI (x_c (σ 5 i 0)) ∧ x_c (σ 5 i 0) ≤ 6 ∧ σ 5 i 1 = nI (x_c (σ 5 i 1)) ∧ x_c (σ 5 i 1) ≤ 6 ∧ ∀ q, q < 36 → ∃ t, t ≤ 9 ∧ σ 15 i q = nI t
def f_wl (σ : x_St) : Prop := (∀ d, d < 40 → ∃ t, t ≤ 999 ∧ σ 11 0 d = nI t) ∧ ∀ z, 1 ≤ z → z ≤ 3 → σ 11 0 (10 * z) = 0
theorem f_sk_rc {σ : x_St} {i : Nat} (h : f_sk σ i) : σ 5 i 0 * σ 5 i 1 = nI (x_c (σ 5 i 0) * x_c (σ 5 i 1)) := by
  rw [← pk_mul, ← h.1, ← h.2.2.1]
theorem f_sk_36 {σ : x_St} {i : Nat} (h : f_sk σ i) : x_c (σ 5 i 0) * x_c (σ 5 i 1) ≤ 36 := Nat.mul_le_mul h.2.1 h.2.2.2.1
theorem f_rG_v {σ : x_St} {i z pl : Nat} (h1 : 1 ≤ z) (h3 : z ≤ 3) (hp : pl < 36) : f_rG σ i 108 12 0 (36 * z + pl) = σ 11 0 (10 * z + x_c (f_bt9 σ i pl z)) := by
  rw [f_rG, if_pos ⟨rfl, rfl, by omega, by omega⟩, show (36 * z + pl) / 36 = z by omega, show (36 * z + pl) % 36 = pl by omega]
theorem f_rG_gb {σ : x_St} {i : Nat} (hw : f_wl σ) (hG : ∀ q, q < 36 → ∃ t, t ≤ 9 ∧ σ 15 i q = nI t) : f_gb (f_rG σ i 108 12 0) := by
  intro d hd h36
  obtain ⟨t, ht, et⟩ := f_bt9_ok hG (d % 36) (d / 36)
  have := f_rG_v (σ := σ) (i := i) (z := d / 36) (pl := d % 36) (by omega) (by omega) (by omega)
  rw [show 36 * (d / 36) + d % 36 = d by omega, et, x_cn (by omega)] at this
  rw [this]
  exact hw.1 _ (by omega)
theorem f_rG_gn {σ : x_St} {i : Nat} (hw : f_wl σ) (hG : ∀ q, q < 36 → ∃ t, t ≤ 9 ∧ σ 15 i q = nI t) : ∀ z pl : Nat, 1 ≤ z → z ≤ 3 → pl < 36 → ¬ f_rG σ i 108 12 0 (36 * z + pl) = 0 → pl % 6 + z ≤ 6 := by
  intro z pl h1 h3 hp hn
  rw [f_rG_v h1 h3 hp] at hn
  refine Nat.not_lt.mp (fun q => hn ?_)
  rw [show f_bt9 σ i pl z = 0 from if_pos (Or.inr q)]
  exact hw.2 z h1 h3
def f_pn (σ : x_St) (i R C : Nat) (σ' : x_St) : Prop := ∃ τ : x_St, f_ag2 (f_rG σ i 108) τ ∧ (∀ q, q < 36 → τ 14 0 q = nI (f_cs (f_rG σ i 108 12 0) 36 0 0 (fun _ => 0) q)) ∧ σ' = x_up (f_wo9 i C R 0 (x_up (x_up τ 5 i 7 0) 5 i 8 0)) 5 i 9 (σ 2 0 1)
def f_pp (σ : x_St) (i : Nat) (σ' : x_St) : Prop := (σ 5 i 9 = σ 2 0 1 ∧ σ' = σ) ∨ (¬ σ 5 i 9 = σ 2 0 1 ∧ f_pn σ i (x_c (σ 5 i 0)) (x_c (σ 5 i 1)) σ')
theorem f_pp_x {σ σ' : x_St} {i a b d : Nat} (h : f_pp σ i σ') (h0 : a ≠ 12 ∧ a ≠ 13 ∧ a ≠ 14) (h1 : ¬ (a = 16 ∧ b = i)) (h2 : ¬ (a = 17 ∧ b = i)) (h3 : ¬ (a = 5 ∧ b = i ∧ 7 ≤ d)) : σ' a b d = σ a b d := by
  rcases h with ⟨_, rfl⟩ | ⟨_, τ, t1, _, rfl⟩
  · rfl
  · rw [x_up_n (fun q => h3 ⟨q.1, q.2.1, by omega⟩), f_wo9_k _ _ _ _ _ _ _ _ h1 h2 (fun q => h3 ⟨q.1, q.2.1, by omega⟩), x_up_n (fun q => h3 ⟨q.1, q.2.1, by omega⟩), x_up_n (fun q => h3 ⟨q.1, q.2.1, by omega⟩), t1 a b d h0.2.1 h0.2.2]
    exact f_rG_k h0.1
theorem f_pp_5 {σ σ' : x_St} {i d : Nat} (h : f_pp σ i σ') (hd : d < 7) : σ' 5 i d = σ 5 i d := f_pp_x h (by decide) (by simp) (by simp) (by omega)
theorem f_pp_k {σ σ' : x_St} {i a b d : Nat} (h : f_pp σ i σ') (h0 : a ≠ 12 ∧ a ≠ 13 ∧ a ≠ 14 ∧ a ≠ 16 ∧ a ≠ 17 ∧ a ≠ 5) : σ' a b d = σ a b d := f_pp_x h (by omega) (by omega) (by omega) (by omega)
theorem f_tb_5 (i : Nat) (num : Int32) : ∀ (f p m : Nat) (σ : x_St) (b d : Nat), (f_tb i num f p m σ).2 5 b d = σ 5 b d
  | 0, _, _, _, _, _ => rfl
  | f + 1, p, m, σ, b, d => by
    rw [f_tb]
    split
    · rw [f_tb_5 i num f, x_up_n (by simp)]
      simp [f_X0_init, x_up, x_zr]
    · exact f_tb_5 i num f _ _ _ b d

/-- X2_plan -/
def q_X2_plan (σ : x_St) (i : Nat) : x_St → Prop := fun σ' => f_pp σ i σ'
set_option maxHeartbeats 4000000 in
set_option maxRecDepth 100000 in
theorem c_X2_plan {l : Launch} {D : va_G} {cs : Nat → ClassId} {base : Nat} {ad : Nat → Nat → Nat} {nS nB nC nO : Nat} {σ : x_St} (i : Nat) (hi : i < nS) (hok : f_sk σ i) (hwk : f_wl σ) : x_Cv l yX2_plan cX2_plan 2 80 0 0 D cs base ad (x_n nS nB nC nO) (x_s nS nB nC nO nS nC) σ [.ref (ad 2 0), .ref (ad 5 i)] (q_X2_plan σ i) (fun σ' => x_U D cs base ad (x_n nS nB nC nO) (x_s nS nB nC nO nS nC) σ') := by
  refine Met.ofW (cc := cX2_plan) (maxL := 2) (ret := none) (by decide) rfl ?_
  intro p e s m args below meth c s₁ B hml hv
  obtain ⟨rfl, hU⟩ := hv
  have hx := B.exec
  have hb := B.bytes
  have hr := B.returns
  have hts := atoms_spec (ws := Cond.code yX2_plan cX2_plan 2 (none) :: Tw) B.pre
  have hown : s.vm.findClass RX2 = some m.cls := findClass_of_methodNamed B.named
  have hlocks := B.notSynchronized
  have hc : CallFix p m c cX2_plan 2 s (([.ref (ad 2 0), .ref (ad 5 i)] : List Value).toArray) Tw RX2 := ⟨hx, hb, hml, hown, fun w hw => hts w (List.mem_cons_of_mem _ hw)⟩
  have hw := x_B.start hU
  have hl := lv_entry ([.ref (ad 2 0), .ref (ad 5 i)]) (n := 2) (Nat.le_of_ble_eq_true rfl)
  rw [lg_entry_eq]
  generalize (lg_sl ([.ref (ad 2 0), .ref (ad 5 i)]) ++ List.replicate (2 - (lg_sl ([.ref (ad 2 0), .ref (ad 5 i)])).length) Slot.unset).toArray = ls at hl ⊢
  have hl : lv_has ls 2 [(0, .ref (ad 2 0)), (1, .ref (ad 5 i))] := hl
  show W p l e (x_rm 80 0 0) s m ([.ref (ad 2 0), .ref (ad 5 i)] : List Value).toArray below meth c s.heap [] 0 0 (MQ below (va_Qv (q_X2_plan σ i) (fun σ' => x_U D cs base ad (x_n nS nB nC nO) (x_s nS nB nC nO nS nC) σ') (x_A base)) ([.ref (ad 2 0), .ref (ad 5 i)] : List Value).toArray s 0 0 (x_A base)) (F0 m 0 ls [])
  refine lv_aload_n hx hb dX2_plan_0 rfl (lv_at hl 1 rfl) ?_
  refine xg_i hc hw 5 i 9 rfl rfl rfl rfl (by decide) (hi) mw_158 dX2_plan_1 ?_
  refine lv_aload_n hx hb dX2_plan_4 rfl (lv_at hl 0 rfl) ?_
  refine xg_i hc hw 2 0 1 rfl rfl rfl rfl (by decide) (Nat.zero_lt_one) mw_41 dX2_plan_5 ?_
  refine lv_icmp_ne (tgt := 12) hx hb dX2_plan_8 (by decide) (fun c_8 => ?_) (fun c_8 => ?_)
  · obtain ⟨hR, hR0, hC, hC0, hGR⟩ := hok
    refine lv_aload_n hx hb dX2_plan_12 rfl (lv_at hl 0 rfl) ?_
    refine lv_aload_n hx hb dX2_plan_13 rfl (lv_at hl 1 rfl) ?_
    refine xc_Vv hc hw 2 0 (c_X2_reckonGains i hi hGR) rfl rfl (Nat.zero_lt_one) mw_354 mw_351 mw_2 mw_353 mp_3 xd_X2_reckonGains ⟨by decide, by decide⟩ (rfl) hl.1 (Nat.le_of_ble_eq_true rfl) dX2_plan_14 ⟨Nat.le_of_ble_eq_true rfl, Nat.le_of_ble_eq_true rfl⟩ (fun σ_14 H locs hq hw => ?_)
    have hq_14 := hq
    have hσ14 : σ_14 = f_rG σ i 108 := hq_14
    refine lv_aload_n hx hb dX2_plan_17 rfl (lv_at hl 0 rfl) ?_
    refine xg_r hc hw 2 0 3 rfl rfl rfl rfl (by decide) (Nat.zero_lt_one) (Nat.zero_lt_one) mw_43 dX2_plan_18 ?_
    refine lv_iconst (v := (-1)) hx hb dX2_plan_21 (by decide) ?_
    refine xc_Sv hc hw (c_J7_fill_53178 13 0 (-1) rfl Nat.zero_lt_one) mw_364 mw_362 mw_12 mw_363 xd_J7_fill_53178 ⟨by decide, by decide⟩ (rfl) hl.1 (Nat.le_of_ble_eq_true rfl) dX2_plan_22 ⟨Nat.le_of_ble_eq_true rfl, Nat.le_of_ble_eq_true rfl⟩ (fun σ_22 H locs hq hw => ?_)
    have hq_22 := hq
    have hσ22 : σ_22 = f_fi σ_14 13 0 (-1) 26244 := hq_22
    have e12 : σ_22 12 0 = f_rG σ i 108 12 0 := (by rw [hσ22, hσ14]; funext d; exact if_neg (by simp))
    have hgn : f_gn σ_22 := (by unfold f_gn; rw [e12]; exact f_rG_gn hwk hGR)
    have hgb : f_gb (σ_22 12 0) := (by rw [e12]; exact f_rG_gb hwk hGR)
    have htc : f_tc σ_22 := (fun pl k h1 h2 => Or.inl (by rw [hσ22]; exact if_pos ⟨rfl, rfl, by omega⟩))
    refine lv_aload_n hx hb dX2_plan_25 rfl (lv_at hl 0 rfl) ?_
    refine xc_Vv hc hw 2 0 (c_X2_chooseSizes hgn htc hgb) rfl rfl (Nat.zero_lt_one) mw_368 mw_365 mw_2 mw_367 mp_4 xd_X2_chooseSizes ⟨by decide, by decide⟩ (rfl) hl.1 (Nat.le_of_ble_eq_true rfl) dX2_plan_26 ⟨Nat.le_of_ble_eq_true rfl, Nat.le_of_ble_eq_true rfl⟩ (fun σ_26 H locs hq hw => ?_)
    have hq_26 := hq
    obtain ⟨ha9, hs9⟩ := hq_26
    rw [e12] at hs9
    have ha8 : f_ag2 (f_rG σ i 108) σ_26 := (fun a b d h1 h2 => by rw [ha9 a b d h1 h2, hσ22, hσ14]; exact if_neg (fun q => h1 q.1))
    have hk5 : ∀ d, σ_26 5 i d = σ 5 i d := (fun d => by rw [ha8 5 i d (by decide) (by decide)]; exact f_rG_k (by decide))
    refine lv_aload_n hx hb dX2_plan_29 rfl (lv_at hl 0 rfl) ?_
    refine lv_aload_n hx hb dX2_plan_30 rfl (lv_at hl 1 rfl) ?_
    refine xc_Vv hc hw 2 0 (c_X2_writeCut i (x_c (σ 5 i 0)) (x_c (σ 5 i 1)) hi ((hk5 0).trans hR) hR0 ((hk5 1).trans hC) hC0 (fun q hq => ⟨_, f_cs_3 _ _ _ _ _ (fun _ => Nat.zero_le _) q, hs9 q hq⟩)) rfl rfl (Nat.zero_lt_one) mw_398 mw_395 mw_2 mw_397 mp_8 xd_X2_writeCut ⟨by decide, by decide⟩ (rfl) hl.1 (Nat.le_of_ble_eq_true rfl) dX2_plan_31 ⟨Nat.le_of_ble_eq_true rfl, Nat.le_of_ble_eq_true rfl⟩ (fun σ_31 H locs hq hw => ?_)
    have hq_31 := hq
    have hσ31 : σ_31 = f_wo9 i (x_c (σ 5 i 1)) (x_c (σ 5 i 0)) 0 (x_up (x_up σ_26 5 i 7 0) 5 i 8 0) := hq_31
    have e21 : σ_31 2 0 1 = σ 2 0 1 := (by rw [hσ31, f_wo9_k _ _ _ _ _ _ _ _ (by simp) (by simp) (by simp), x_up_n (by simp), x_up_n (by simp), ha8 2 0 1 (by decide) (by decide)]; exact f_rG_k (by decide))
    refine lv_aload_n hx hb dX2_plan_34 rfl (lv_at hl 1 rfl) ?_
    refine lv_aload_n hx hb dX2_plan_35 rfl (lv_at hl 0 rfl) ?_
    refine xg_i hc hw 2 0 1 rfl rfl rfl rfl (by decide) (Nat.zero_lt_one) mw_41 dX2_plan_36 ?_
    refine xp_i hc hw 5 i 9 rfl rfl rfl rfl (by decide) (hi) rfl (ty := .int) (by decide +kernel) rfl rfl mw_158 dX2_plan_39 (fun H locs hw => ?_)
    exact xr_v hc hlocks hr hw (Or.inr ⟨c_8, σ_26, ha8, hs9, by rw [e21, hσ31]⟩) (Nat.le_of_ble_eq_true rfl) (Nat.le_of_ble_eq_true rfl) dX2_plan_42
  · exact xr_v hc hlocks hr hw (Or.inl ⟨c_8, rfl⟩) (Nat.le_of_ble_eq_true rfl) (Nat.le_of_ble_eq_true rfl) dX2_plan_11
/-- X6_best -/
def q_X6_best (σ : x_St) (a b : Int32) : Int32 → x_St → Prop := fun r σ' => ((0 ≤ a ∧ a < σ 6 0 1) ∧ 0 ≤ b ∧ b ≤ 1) ∧ f_pp σ (x_c a) σ' ∧ r = if b = 0 then σ' 5 (x_c a) 7 else σ' 5 (x_c a) 8
set_option maxHeartbeats 4000000 in
set_option maxRecDepth 100000 in
theorem c_X6_best {l : Launch} {D : va_G} {cs : Nat → ClassId} {base : Nat} {ad : Nat → Nat → Nat} {nS nB nC nO : Nat} {σ : x_St} (hl0 : l.stackTraces = false) (a b : Int32) (hS : σ 6 0 1 = nI nS) (hS0 : nS ≤ 30) (hok : ∀ i, i < nS → f_sk σ i) (hwk : f_wl σ) : x_Xi l yX6_best cX6_best 4 (some .int) 82 2 12 D cs base ad (x_n nS nB nC nO) (x_s nS nB nC nO nS nC) σ [.ref (ad 6 0), .int a, .int b] (q_X6_best σ a b) (fun σ' => x_U D cs base ad (x_n nS nB nC nO) (x_s nS nB nC nO nS nC) σ') (fun E => E = x_nse ∧ ¬ ((0 ≤ a ∧ a < σ 6 0 1) ∧ 0 ≤ b ∧ b ≤ 1)) := by
  refine vx_ofW (cc := cX6_best) (maxL := 4) (ret := some .int) (by decide) rfl ?_
  intro p e s m args below meth c s₁ B hml hout hv
  obtain ⟨rfl, hU⟩ := hv
  have hx := B.exec
  have hb := B.bytes
  have hr := B.returns
  have hts := atoms_spec (ws := Cond.code yX6_best cX6_best 4 (some .int) :: Tw) B.pre
  have hown : s.vm.findClass RX6 = some m.cls := findClass_of_methodNamed B.named
  have hlocks := B.notSynchronized
  have hc : CallFix p m c cX6_best 4 s (([.ref (ad 6 0), .int a, .int b] : List Value).toArray) Tw RX6 := ⟨hx, hb, hml, hown, fun w hw => hts w (List.mem_cons_of_mem _ hw)⟩
  have hw := x_B.start hU
  have hl := lv_entry ([.ref (ad 6 0), .int a, .int b]) (n := 4) (Nat.le_of_ble_eq_true rfl)
  rw [lg_entry_eq]
  generalize (lg_sl ([.ref (ad 6 0), .int a, .int b]) ++ List.replicate (4 - (lg_sl ([.ref (ad 6 0), .int a, .int b])).length) Slot.unset).toArray = ls at hl ⊢
  have hl : lv_has ls 4 [(0, .ref (ad 6 0)), (1, .int a), (2, .int b)] := hl
  show W p l e (x_rm 82 2 12) s m ([.ref (ad 6 0), .int a, .int b] : List Value).toArray below meth c s.heap [] 0 0 (vx_MQ below (va_Qi (q_X6_best σ a b) (fun σ' => x_U D cs base ad (x_n nS nB nC nO) (x_s nS nB nC nO nS nC) σ') (x_A base)) (x_XC D cs base ad (x_n nS nB nC nO) (x_s nS nB nC nO nS nC) σ (fun E => E = x_nse ∧ ¬ ((0 ≤ a ∧ a < σ 6 0 1) ∧ 0 ≤ b ∧ b ≤ 1))) ([.ref (ad 6 0), .int a, .int b] : List Value).toArray s 2 12 (x_A base)) (F0 m 0 ls [])
  refine lv_aload_n hx hb dX6_best_0 rfl (lv_at hl 0 rfl) ?_
  refine lv_iload_n hx hb dX6_best_1 rfl (lv_at hl 1 rfl) ?_
  refine xc_Xr hc hw 6 0 (c_X6_shellNumbered hl0 a hS hS0) rfl rfl (Nat.zero_lt_one) mw_242 mw_239 mw_1 mw_241 mp_1 xd_X6_shellNumbered ⟨by decide, by decide⟩ (rfl) hl.1 (Nat.le_of_ble_eq_true rfl) dX6_best_2 ⟨Nat.le_of_ble_eq_true rfl, Nat.le_of_ble_eq_true rfl⟩ (fun E ce q9 H locs hp hw hq1 hq2 hq3 => ?_) (fun j_2 H locs hq hw => ?_)
  · exact xo_out hout hlocks hw (⟨hp.1, fun q => hp.2 q.1⟩) hq1 hq2 hq3 (Nat.le_of_ble_eq_true rfl) (Nat.le_of_ble_eq_true rfl)
  have hq_2 := hq
  obtain ⟨hj1, hj2, hj3⟩ := hq_2
  subst hj2
  refine lv_astore_n (lv' := [(3, .ref (ad 5 (x_c a))), (0, .ref (ad 6 0)), (1, .int a), (2, .int b)]) hx hb dX6_best_5 rfl hl (by decide) rfl (fun ls hl => ?_)
  refine lv_iload_n hx hb dX6_best_6 rfl (lv_at hl 3 rfl) ?_
  refine lv_iconst (v := 0) hx hb dX6_best_7 (by decide) ?_
  refine lv_iconst (v := 1) hx hb dX6_best_8 (by decide) ?_
  refine xc_Si hc hw (c_X6_isWithin b 0 1) mw_128 mw_126 mw_1 mw_127 xd_X6_isWithin ⟨by decide, by decide⟩ (rfl) hl.1 (Nat.le_of_ble_eq_true rfl) dX6_best_9 ⟨Nat.le_of_ble_eq_true rfl, Nat.le_of_ble_eq_true rfl⟩ (fun r_9 σ_9 H locs hq hw => ?_)
  obtain ⟨hσ_9, hr_9⟩ := hq
  rw [hσ_9] at hw
  refine lv_if_ne (tgt := 25) hx hb dX6_best_12 (by decide) (fun c_12 => ?_) (fun c_12 => ?_)
  · refine lv_aload_n hx hb dX6_best_25 rfl (lv_at hl 1 rfl) ?_
    refine xg_r hc hw 6 0 10 rfl rfl rfl rfl (by decide) (Nat.zero_lt_one) (Nat.zero_lt_one) mw_89 dX6_best_26 ?_
    refine lv_aload_n hx hb dX6_best_29 rfl (lv_at hl 0 rfl) ?_
    refine xc_Vv hc hw 2 0 (c_X2_plan (x_c a) hj1 (hok _ hj1) hwk) rfl rfl (Nat.zero_lt_one) mw_350 mw_347 mw_2 mw_348 mw_349 xd_X2_plan ⟨by decide, by decide⟩ (rfl) hl.1 (Nat.le_of_ble_eq_true rfl) dX6_best_30 ⟨Nat.le_of_ble_eq_true rfl, Nat.le_of_ble_eq_true rfl⟩ (fun σ_30 H locs hq hw => ?_)
    have hq_30 := hq
    refine lv_iload_n hx hb dX6_best_33 rfl (lv_at hl 3 rfl) ?_
    refine lv_if_ne (tgt := 44) hx hb dX6_best_34 (by decide) (fun c_34 => ?_) (fun c_34 => ?_)
    · refine lv_aload_n hx hb dX6_best_44 rfl (lv_at hl 0 rfl) ?_
      refine xg_i hc hw 5 (x_c a) 8 rfl rfl rfl rfl (by decide) (hj1) mw_155 dX6_best_45 ?_
      exact xr_xi hc hlocks hr rfl hw (⟨⟨hj3, x_if1 hr_9 c_12⟩, hq_30, by simp [c_34]⟩) (Nat.le_of_ble_eq_true rfl) (Nat.le_of_ble_eq_true rfl) dX6_best_48
    · refine lv_aload_n hx hb dX6_best_37 rfl (lv_at hl 0 rfl) ?_
      refine xg_i hc hw 5 (x_c a) 7 rfl rfl rfl rfl (by decide) (hj1) mw_152 dX6_best_38 ?_
      refine lv_goto (tgt := 48) hx hb dX6_best_41 (by decide) ?_
      exact xr_xi hc hlocks hr rfl hw (⟨⟨hj3, x_if1 hr_9 c_12⟩, hq_30, by simp [c_34]⟩) (Nat.le_of_ble_eq_true rfl) (Nat.le_of_ble_eq_true rfl) dX6_best_48
  · exact xk_N hl0 hc hout hlocks hw (is := 121) (text := "a cut has no such thing") (by decide +kernel) (⟨rfl, fun q => x_if0 hr_9 c_12 q.2⟩) dX6_best_15 dX6_best_18 dX6_best_19 dX6_best_21 dX6_best_24 hl.1 ⟨by decide, Nat.le_of_ble_eq_true rfl, by decide, by decide⟩ (by decide) (by decide)
/-- X6_bestAt -/
def q_X6_bestAt (σ : x_St) (a b : Int32) : Int32 → x_St → Prop := fun r σ' => ((0 ≤ a ∧ a < σ 6 0 1) ∧ 0 ≤ b ∧ b < σ 5 (x_c a) 0 * σ 5 (x_c a) 1) ∧ f_pp σ (x_c a) σ' ∧ r = σ' 16 (x_c a) (x_c b)
set_option maxHeartbeats 4000000 in
set_option maxRecDepth 100000 in
theorem c_X6_bestAt {l : Launch} {D : va_G} {cs : Nat → ClassId} {base : Nat} {ad : Nat → Nat → Nat} {nS nB nC nO : Nat} {σ : x_St} (hl0 : l.stackTraces = false) (a b : Int32) (hS : σ 6 0 1 = nI nS) (hS0 : nS ≤ 30) (hok : ∀ i, i < nS → f_sk σ i) (hwk : f_wl σ) : x_Xi l yX6_bestAt cX6_bestAt 4 (some .int) 82 2 12 D cs base ad (x_n nS nB nC nO) (x_s nS nB nC nO nS nC) σ [.ref (ad 6 0), .int a, .int b] (q_X6_bestAt σ a b) (fun σ' => x_U D cs base ad (x_n nS nB nC nO) (x_s nS nB nC nO nS nC) σ') (fun E => E = x_nse ∧ ¬ ((0 ≤ a ∧ a < σ 6 0 1) ∧ 0 ≤ b ∧ b < σ 5 (x_c a) 0 * σ 5 (x_c a) 1)) := by
  refine vx_ofW (cc := cX6_bestAt) (maxL := 4) (ret := some .int) (by decide) rfl ?_
  intro p e s m args below meth c s₁ B hml hout hv
  obtain ⟨rfl, hU⟩ := hv
  have hx := B.exec
  have hb := B.bytes
  have hr := B.returns
  have hts := atoms_spec (ws := Cond.code yX6_bestAt cX6_bestAt 4 (some .int) :: Tw) B.pre
  have hown : s.vm.findClass RX6 = some m.cls := findClass_of_methodNamed B.named
  have hlocks := B.notSynchronized
  have hc : CallFix p m c cX6_bestAt 4 s (([.ref (ad 6 0), .int a, .int b] : List Value).toArray) Tw RX6 := ⟨hx, hb, hml, hown, fun w hw => hts w (List.mem_cons_of_mem _ hw)⟩
  have hw := x_B.start hU
  have hl := lv_entry ([.ref (ad 6 0), .int a, .int b]) (n := 4) (Nat.le_of_ble_eq_true rfl)
  rw [lg_entry_eq]
  generalize (lg_sl ([.ref (ad 6 0), .int a, .int b]) ++ List.replicate (4 - (lg_sl ([.ref (ad 6 0), .int a, .int b])).length) Slot.unset).toArray = ls at hl ⊢
  have hl : lv_has ls 4 [(0, .ref (ad 6 0)), (1, .int a), (2, .int b)] := hl
  show W p l e (x_rm 82 2 12) s m ([.ref (ad 6 0), .int a, .int b] : List Value).toArray below meth c s.heap [] 0 0 (vx_MQ below (va_Qi (q_X6_bestAt σ a b) (fun σ' => x_U D cs base ad (x_n nS nB nC nO) (x_s nS nB nC nO nS nC) σ') (x_A base)) (x_XC D cs base ad (x_n nS nB nC nO) (x_s nS nB nC nO nS nC) σ (fun E => E = x_nse ∧ ¬ ((0 ≤ a ∧ a < σ 6 0 1) ∧ 0 ≤ b ∧ b < σ 5 (x_c a) 0 * σ 5 (x_c a) 1))) ([.ref (ad 6 0), .int a, .int b] : List Value).toArray s 2 12 (x_A base)) (F0 m 0 ls [])
  refine lv_aload_n hx hb dX6_bestAt_0 rfl (lv_at hl 0 rfl) ?_
  refine lv_iload_n hx hb dX6_bestAt_1 rfl (lv_at hl 1 rfl) ?_
  refine xc_Xr hc hw 6 0 (c_X6_shellNumbered hl0 a hS hS0) rfl rfl (Nat.zero_lt_one) mw_242 mw_239 mw_1 mw_241 mp_1 xd_X6_shellNumbered ⟨by decide, by decide⟩ (rfl) hl.1 (Nat.le_of_ble_eq_true rfl) dX6_bestAt_2 ⟨Nat.le_of_ble_eq_true rfl, Nat.le_of_ble_eq_true rfl⟩ (fun E ce q9 H locs hp hw hq1 hq2 hq3 => ?_) (fun j_2 H locs hq hw => ?_)
  · exact xo_out hout hlocks hw (⟨hp.1, fun q => hp.2 q.1⟩) hq1 hq2 hq3 (Nat.le_of_ble_eq_true rfl) (Nat.le_of_ble_eq_true rfl)
  have hq_2 := hq
  obtain ⟨hj1, hj2, hj3⟩ := hq_2
  subst hj2
  refine lv_astore_n (lv' := [(3, .ref (ad 5 (x_c a))), (0, .ref (ad 6 0)), (1, .int a), (2, .int b)]) hx hb dX6_bestAt_5 rfl hl (by decide) rfl (fun ls hl => ?_)
  have hRC := f_sk_rc (hok _ hj1)
  have h36 := f_sk_36 (hok _ hj1)
  refine lv_iload_n hx hb dX6_bestAt_6 rfl (lv_at hl 3 rfl) ?_
  refine lv_iconst (v := 0) hx hb dX6_bestAt_7 (by decide) ?_
  refine lv_aload_n hx hb dX6_bestAt_8 rfl (lv_at hl 0 rfl) ?_
  refine xg_i hc hw 5 (x_c a) 0 rfl rfl rfl rfl (by decide) (hj1) mw_135 dX6_bestAt_9 ?_
  refine lv_aload_n hx hb dX6_bestAt_12 rfl (lv_at hl 0 rfl) ?_
  refine xg_i hc hw 5 (x_c a) 1 rfl rfl rfl rfl (by decide) (hj1) mw_138 dX6_bestAt_13 ?_
  refine lv_imul hx hb dX6_bestAt_16 ?_
  refine lv_iconst (v := 1) hx hb dX6_bestAt_17 (by decide) ?_
  refine lv_isub hx hb dX6_bestAt_18 ?_
  refine xc_Si hc hw (c_X6_isWithin b 0 (((σ 5 (x_c a) 0) * (σ 5 (x_c a) 1)) - 1)) mw_128 mw_126 mw_1 mw_127 xd_X6_isWithin ⟨by decide, by decide⟩ (rfl) hl.1 (Nat.le_of_ble_eq_true rfl) dX6_bestAt_19 ⟨Nat.le_of_ble_eq_true rfl, Nat.le_of_ble_eq_true rfl⟩ (fun r_19 σ_19 H locs hq hw => ?_)
  obtain ⟨hσ_19, hr_19⟩ := hq
  rw [hσ_19] at hw
  refine lv_if_ne (tgt := 35) hx hb dX6_bestAt_22 (by decide) (fun c_22 => ?_) (fun c_22 => ?_)
  · have hQ := (x_wm hRC (by omega)).mp (x_if1 hr_19 c_22)
    refine lv_aload_n hx hb dX6_bestAt_35 rfl (lv_at hl 1 rfl) ?_
    refine xg_r hc hw 6 0 10 rfl rfl rfl rfl (by decide) (Nat.zero_lt_one) (Nat.zero_lt_one) mw_89 dX6_bestAt_36 ?_
    refine lv_aload_n hx hb dX6_bestAt_39 rfl (lv_at hl 0 rfl) ?_
    refine xc_Vv hc hw 2 0 (c_X2_plan (x_c a) hj1 (hok _ hj1) hwk) rfl rfl (Nat.zero_lt_one) mw_350 mw_347 mw_2 mw_348 mw_349 xd_X2_plan ⟨by decide, by decide⟩ (rfl) hl.1 (Nat.le_of_ble_eq_true rfl) dX6_bestAt_40 ⟨Nat.le_of_ble_eq_true rfl, Nat.le_of_ble_eq_true rfl⟩ (fun σ_40 H locs hq hw => ?_)
    have hq_40 := hq
    refine lv_aload_n hx hb dX6_bestAt_43 rfl (lv_at hl 0 rfl) ?_
    refine xg_r hc hw 5 (x_c a) 5 rfl rfl rfl rfl (by decide) (hj1) (hj1) mw_146 dX6_bestAt_44 ?_
    refine lv_iload_n hx hb dX6_bestAt_47 rfl (lv_at hl 3 rfl) ?_
    refine xa_ld hc hw 16 (x_c a) (x_c b) rfl (hj1) ((x_ix hQ.1 hQ.2 hRC (by omega)).1) (Nat.lt_of_lt_of_le (x_ix hQ.1 hQ.2 hRC (by omega)).2 h36) dX6_bestAt_48 ?_
    exact xr_xi hc hlocks hr rfl hw (⟨⟨hj3, hQ⟩, hq_40, rfl⟩) (Nat.le_of_ble_eq_true rfl) (Nat.le_of_ble_eq_true rfl) dX6_bestAt_49
  · exact xk_N hl0 hc hout hlocks hw (is := 133) (text := "no such place") (by decide +kernel) (⟨rfl, fun q => x_if0 hr_19 c_22 ((x_wm hRC (by omega)).mpr q.2)⟩) dX6_bestAt_25 dX6_bestAt_28 dX6_bestAt_29 dX6_bestAt_31 dX6_bestAt_34 hl.1 ⟨by decide, Nat.le_of_ble_eq_true rfl, by decide, by decide⟩ (by decide) (by decide)
/-- X6_cut -/
def q_X6_cut (ad : Nat → Nat → Nat) (n : Nat → Nat) (σ : x_St) (a : Int32) (nB : Nat) : Int32 → ((Nat → Nat → Nat) × Nat × x_St) → Prop := fun r u => (∀ a b, b < n a → u.1 a b = ad a b) ∧ (0 ≤ a ∧ a < σ 6 0 1) ∧ (¬ σ 5 (x_c a) 4 = 0 → r = -1 ∧ u.2.1 = nB ∧ u.2.2 = σ) ∧ (σ 5 (x_c a) 4 = 0 → ∃ τ : x_St, f_pp σ (x_c a) τ ∧ (¬ σ 6 0 3 + τ 5 (x_c a) 8 ≤ 400 → r = -1 ∧ u.2.1 = nB ∧ u.2.2 = τ) ∧ (σ 6 0 3 + τ 5 (x_c a) 8 ≤ 400 → r = τ 5 (x_c a) 8 ∧ u.2.1 = (f_tb (x_c a) a ((x_c (σ 5 (x_c a) 0)) * (x_c (σ 5 (x_c a) 1))) 0 nB (x_up τ 5 (x_c a) 4 1)).1 ∧ u.2.2 = (f_tb (x_c a) a ((x_c (σ 5 (x_c a) 0)) * (x_c (σ 5 (x_c a) 1))) 0 nB (x_up τ 5 (x_c a) 4 1)).2))
set_option maxHeartbeats 4000000 in
set_option maxRecDepth 100000 in
theorem c_X6_cut {l : Launch} {D : va_G} {cs : Nat → ClassId} {base : Nat} {ad : Nat → Nat → Nat} {nS nB nC nO : Nat} {σ : x_St} (hl0 : l.stackTraces = false) (a : Int32) (hS : σ 6 0 1 = nI nS) (hS0 : nS ≤ 30) (hB : σ 6 0 3 = nI nB) (hB0 : nB ≤ 400) (hok : ∀ i, i < nS → f_sk σ i) (hwk : f_wl σ) : x_Xi l yX6_cut cX6_cut 3 (some .int) 82 37 330 D cs base ad (x_n nS nB nC nO) (x_s nS nB nC nO nS nC) σ [.ref (ad 6 0), .int a] (q_X6_cut ad (x_n nS nB nC nO) σ a nB) (fun u => x_U D cs base u.1 (x_n nS u.2.1 nC nO) (x_s nS u.2.1 nC nO nS nC) u.2.2) (fun E => E = x_nse ∧ ¬ (0 ≤ a ∧ a < σ 6 0 1)) := by
  refine vx_ofW (cc := cX6_cut) (maxL := 3) (ret := some .int) (by decide) rfl ?_
  intro p e s m args below meth c s₁ B hml hout hv
  obtain ⟨rfl, hU⟩ := hv
  have hx := B.exec
  have hb := B.bytes
  have hr := B.returns
  have hts := atoms_spec (ws := Cond.code yX6_cut cX6_cut 3 (some .int) :: Tw) B.pre
  have hown : s.vm.findClass RX6 = some m.cls := findClass_of_methodNamed B.named
  have hlocks := B.notSynchronized
  have hc : CallFix p m c cX6_cut 3 s (([.ref (ad 6 0), .int a] : List Value).toArray) Tw RX6 := ⟨hx, hb, hml, hown, fun w hw => hts w (List.mem_cons_of_mem _ hw)⟩
  have hw := x_B.start hU
  have hl := lv_entry ([.ref (ad 6 0), .int a]) (n := 3) (Nat.le_of_ble_eq_true rfl)
  rw [lg_entry_eq]
  generalize (lg_sl ([.ref (ad 6 0), .int a]) ++ List.replicate (3 - (lg_sl ([.ref (ad 6 0), .int a])).length) Slot.unset).toArray = ls at hl ⊢
  have hl : lv_has ls 3 [(0, .ref (ad 6 0)), (1, .int a)] := hl
  generalize ([.ref (ad 6 0), .int a] : List Value).toArray = args at hc ⊢
  show W p l e (x_rm 82 37 330) s m args below meth c s.heap [] 0 0 (vx_MQ below (va_Qi (q_X6_cut ad (x_n nS nB nC nO) σ a nB) (fun u => x_U D cs base u.1 (x_n nS u.2.1 nC nO) (x_s nS u.2.1 nC nO nS nC) u.2.2) (x_A base)) (x_XC D cs base ad (x_n nS nB nC nO) (x_s nS nB nC nO nS nC) σ (fun E => E = x_nse ∧ ¬ (0 ≤ a ∧ a < σ 6 0 1))) args s 37 330 (x_A base)) (F0 m 0 ls [])
  refine lv_aload_n hx hb dX6_cut_0 rfl (lv_at hl 0 rfl) ?_
  refine lv_iload_n hx hb dX6_cut_1 rfl (lv_at hl 1 rfl) ?_
  refine xc_Xr hc hw 6 0 (c_X6_shellNumbered hl0 a hS hS0) rfl rfl (Nat.zero_lt_one) mw_242 mw_239 mw_1 mw_241 mp_1 xd_X6_shellNumbered ⟨by decide, by decide⟩ (rfl) hl.1 (Nat.le_of_ble_eq_true rfl) dX6_cut_2 ⟨Nat.le_of_ble_eq_true rfl, Nat.le_of_ble_eq_true rfl⟩ (fun E ce q9 H locs hp hw hq1 hq2 hq3 => ?_) (fun j_2 H locs hq hw => ?_)
  · exact xo_out hout hlocks hw (hp) hq1 hq2 hq3 (Nat.le_of_ble_eq_true rfl) (Nat.le_of_ble_eq_true rfl)
  have hq_2 := hq
  obtain ⟨hj1, hj2, hj3⟩ := hq_2
  subst hj2
  refine lv_astore_n (lv' := [(2, .ref (ad 5 (x_c a))), (0, .ref (ad 6 0)), (1, .int a)]) hx hb dX6_cut_5 rfl hl (by decide) rfl (fun ls hl => ?_)
  refine lv_aload_n hx hb dX6_cut_6 rfl (lv_at hl 0 rfl) ?_
  refine xg_i hc hw 5 (x_c a) 4 rfl rfl rfl rfl (by decide) (hj1) mw_144 dX6_cut_7 ?_
  refine lv_if_eq (tgt := 15) hx hb dX6_cut_10 (by decide) (fun c_10 => ?_) (fun c_10 => ?_)
  · refine lv_aload_n hx hb dX6_cut_15 rfl (lv_at hl 1 rfl) ?_
    refine xg_r hc hw 6 0 10 rfl rfl rfl rfl (by decide) (Nat.zero_lt_one) (Nat.zero_lt_one) mw_89 dX6_cut_16 ?_
    refine lv_aload_n hx hb dX6_cut_19 rfl (lv_at hl 0 rfl) ?_
    refine xc_Vv hc hw 2 0 (c_X2_plan (x_c a) hj1 (hok _ hj1) hwk) rfl rfl (Nat.zero_lt_one) mw_350 mw_347 mw_2 mw_348 mw_349 xd_X2_plan ⟨by decide, by decide⟩ (rfl) hl.1 (Nat.le_of_ble_eq_true rfl) dX6_cut_20 ⟨Nat.le_of_ble_eq_true rfl, Nat.le_of_ble_eq_true rfl⟩ (fun σ_20 H locs hq hw => ?_)
    have hq_20 := hq
    replace hq_20 : f_pp σ (x_c a) σ_20 := hq_20
    obtain ⟨hR, hR0, hC, hC0, hGR⟩ := hok _ hj1
    have k5 : ∀ d, d < 7 → σ_20 5 (x_c a) d = σ 5 (x_c a) d := (fun d hd => f_pp_5 hq_20 hd)
    have k6 : ∀ d, σ_20 6 0 d = σ 6 0 d := (fun d => f_pp_k hq_20 (by simp))
    refine lv_aload_n hx hb dX6_cut_23 rfl (lv_at hl 1 rfl) ?_
    refine xg_i hc hw 6 0 3 rfl rfl rfl rfl (by decide) (Nat.zero_lt_one) mw_82 dX6_cut_24 ?_
    refine lv_aload_n hx hb dX6_cut_27 rfl (lv_at hl 0 rfl) ?_
    refine xg_i hc hw 5 (x_c a) 8 rfl rfl rfl rfl (by decide) (hj1) mw_155 dX6_cut_28 ?_
    refine lv_iadd hx hb dX6_cut_31 ?_
    refine lv_sipush (v := 400) hx hb dX6_cut_32 (by decide) ?_
    refine lv_icmp_le (tgt := 40) hx hb dX6_cut_35 (by decide) (fun c_35 => ?_) (fun c_35 => ?_)
    · refine lv_aload_n hx hb dX6_cut_40 rfl (lv_at hl 0 rfl) ?_
      refine lv_iconst (v := 1) hx hb dX6_cut_41 (by decide) ?_
      refine xp_i hc hw 5 (x_c a) 4 rfl rfl rfl rfl (by decide) (hj1) rfl (ty := .boolean) (by decide +kernel) rfl rfl mw_144 dX6_cut_42 (fun H locs hw => ?_)
      refine lv_aload_n hx hb dX6_cut_45 rfl (lv_at hl 1 rfl) ?_
      refine lv_aload_n hx hb dX6_cut_46 rfl (lv_at hl 0 rfl) ?_
      refine lv_iload_n hx hb dX6_cut_47 rfl (lv_at hl 2 rfl) ?_
      refine xc_Vv hc hw 6 0 (c_X6_takeButtons (x_c a) (x_c (σ 5 (x_c a) 0)) (x_c (σ 5 (x_c a) 1)) a hj1 (by rw [x_up_n (by simp), k5 0 (by decide)]; exact hR) hR0 (by rw [x_up_n (by simp), k5 1 (by decide)]; exact hC) hC0 (by rw [x_up_n (by simp), k6 3]; exact hB) hB0) rfl rfl (Nat.zero_lt_one) mw_417 mw_414 mw_1 mw_416 mp_9 xd_X6_takeButtons ⟨by decide, by decide⟩ (rfl) hl.1 (Nat.le_of_ble_eq_true rfl) dX6_cut_48 ⟨Nat.le_of_ble_eq_true rfl, Nat.le_of_ble_eq_true rfl⟩ (fun ad_48 H locs hag_48 hw => ?_)
      have hl : lv_has ls 3 [(2, .ref (ad_48 5 (x_c a))), (0, .ref (ad_48 6 0)), (1, .int a)] := by rw [hag_48 5 (x_c a) (hj1), hag_48 6 0 (Nat.zero_lt_one)]; exact hl
      refine lv_aload_n hx hb dX6_cut_51 rfl (lv_at hl 0 rfl) ?_
      refine xg_i hc hw 5 (x_c a) 8 rfl rfl rfl rfl (by decide) (hj1) mw_155 dX6_cut_52 ?_
      exact xr_xi (u := (ad_48, (f_tb (x_c a) a ((x_c (σ 5 (x_c a) 0)) * (x_c (σ 5 (x_c a) 1))) 0 nB (x_up σ_20 5 (x_c a) 4 1)).1, (f_tb (x_c a) a ((x_c (σ 5 (x_c a) 0)) * (x_c (σ 5 (x_c a) 1))) 0 nB (x_up σ_20 5 (x_c a) 4 1)).2)) hc hlocks hr rfl hw (⟨hag_48, hj3, fun q => absurd c_10 q, fun _ => ⟨σ_20, hq_20, fun q => absurd (by rw [← k6 3]; exact c_35) q, fun _ => ⟨(f_tb_5 _ _ _ _ _ _ _ _).trans (x_up_n (by simp)), rfl, rfl⟩⟩⟩) (Nat.le_of_ble_eq_true rfl) (Nat.le_of_ble_eq_true rfl) dX6_cut_55
    · refine lv_iconst (v := (-1)) hx hb dX6_cut_38 (by decide) ?_
      exact xr_xi (u := (ad, nB, σ_20)) hc hlocks hr rfl hw (⟨fun _ _ _ => rfl, hj3, fun q => absurd c_10 q, fun _ => ⟨σ_20, hq_20, fun _ => ⟨rfl, rfl, rfl⟩, fun q => absurd q (by rw [← k6 3]; exact c_35)⟩⟩) (Nat.le_of_ble_eq_true rfl) (Nat.le_of_ble_eq_true rfl) dX6_cut_39
  · refine lv_iconst (v := (-1)) hx hb dX6_cut_13 (by decide) ?_
    exact xr_xi (u := (ad, nB, σ)) hc hlocks hr rfl hw (⟨fun _ _ _ => rfl, hj3, fun _ => ⟨rfl, rfl, rfl⟩, fun q => absurd q c_10⟩) (Nat.le_of_ble_eq_true rfl) (Nat.le_of_ble_eq_true rfl) dX6_cut_14
