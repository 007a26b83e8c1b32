def f_W (F : Nat → Nat → Int32) (g : Nat → Int32) (pl k z : Nat) : Int32 := if g (36 * z + pl) = 0 ∨ k / 3 ^ (pl % 6) % 3 ^ z ≠ 0 then -1 else g (36 * z + pl) * 64 - 1 + F (pl + z) (f_pw z pl k)
def f_ml (w : Nat → Int32) : Nat → Nat → Int32 → Int32
  | 0, _, x => x
  | f + 1, z, x => f_ml w f (z + 1) (if x < w z then w z else x)
def f_S (g : Nat → Int32) (pl k : Nat) : Int32 := if h : 36 ≤ pl then 0 else
  have x0 := f_S g (pl + 1) (f_wo pl k)
  have w1 := if g (36 * 1 + pl) = 0 ∨ k / 3 ^ (pl % 6) % 3 ^ 1 ≠ 0 then -1 else g (36 * 1 + pl) * 64 - 1 + f_S g (pl + 1) (f_pw 1 pl k)
  have w2 := if g (36 * 2 + pl) = 0 ∨ k / 3 ^ (pl % 6) % 3 ^ 2 ≠ 0 then -1 else g (36 * 2 + pl) * 64 - 1 + f_S g (pl + 2) (f_pw 2 pl k)
  have w3 := if g (36 * 3 + pl) = 0 ∨ k / 3 ^ (pl % 6) % 3 ^ 3 ≠ 0 then -1 else g (36 * 3 + pl) * 64 - 1 + f_S g (pl + 3) (f_pw 3 pl k)
  have x1 := if x0 < w1 then w1 else x0
  have x2 := if x1 < w2 then w2 else x1
  if x2 < w3 then w3 else x2
termination_by 36 - pl
decreasing_by all_goals omega
theorem f_S_eq {g : Nat → Int32} {pl k : Nat} (h : pl < 36) : f_S g pl k = f_ml (f_W (f_S g) g pl k) 3 1 (f_S g (pl + 1) (f_wo pl k)) := by
  rw [f_S, dif_neg (by omega)]
  rfl
def f_gn (σ : x_St) : Prop := ∀ z pl : Nat, 1 ≤ z → z ≤ 3 → pl < 36 → ¬ σ 12 0 (36 * z + pl) = 0 → pl % 6 + z ≤ 6
def f_tc (σ : x_St) : Prop := ∀ pl k : Nat, pl < 36 → k < 729 → σ 13 0 (729 * pl + k) = -1 ∨ σ 13 0 (729 * pl + k) = f_S (σ 12 0) pl k
def f_ag (σ σ' : x_St) : Prop := ∀ a b d : Nat, a ≠ 13 → σ' a b d = σ a b d
theorem f_ag.g {σ σ' : x_St} (h : f_ag σ σ') : σ' 12 0 = σ 12 0 := by
  funext d
  exact h 12 0 d (by decide)
theorem f_ag.tr {σ σ' σ'' : x_St} (h : f_ag σ σ') (h2 : f_ag σ' σ'') : f_ag σ σ'' := fun a b d q => (h2 a b d q).trans (h a b d q)
theorem f_gn.up {σ σ' : x_St} (h : f_gn σ) (h2 : f_ag σ σ') : f_gn σ' := by
  unfold f_gn
  rw [h2.g]
  exact h
def f_qS (σ : x_St) (pl kk : Nat) : Int32 → x_St → Prop := fun r σ' => f_ag σ σ' ∧ f_tc σ' ∧ r = f_S (σ 12 0) pl kk
def f_qW (σ : x_St) (z pl kk : Nat) : Int32 → x_St → Prop := fun r σ' => f_ag σ σ' ∧ f_tc σ' ∧ r = f_W (f_S (σ 12 0)) (σ 12 0) pl kk z
theorem f_tc_up {σ σ' : x_St} {pl k : Nat} {v : Int32} (ha : f_ag σ σ') (h : f_tc σ') (hp : pl < 36) (hk : k < 729) (hv : v = f_S (σ 12 0) pl k) : f_tc (x_up σ' 13 0 (729 * pl + k) v) := by
  intro p2 k2 hp2 hk2
  have eg : x_up σ' 13 0 (729 * pl + k) v 12 0 = σ' 12 0 := by
    funext d
    exact x_up_n (by simp)
  rw [eg]
  by_cases hh : 729 * p2 + k2 = 729 * pl + k
  · have h1 : p2 = pl := by omega
    have h2 : k2 = k := by omega
    subst h1 h2
    exact Or.inr (by rw [x_up_s, hv, ha.g])
  · rw [x_up_n (fun q => hh q.2.2)]
    exact h p2 k2 hp2 hk2
theorem x_729 {a b : Nat} : nI a * 729 + nI b = nI (729 * a + b) := by
  rw [show (729 : Int32) = nI 729 from rfl, pk_mul, nI_add, Nat.mul_comm]
theorem x_nge2 {a b : Nat} (ha : a < 2 ^ 31) (hb : b < 2 ^ 31) (h : nI a < nI b) : a < b := (nI_ltI ha hb).mp h
theorem x_nlt2 {a b : Nat} (ha : a < 2 ^ 31) (hb : b < 2 ^ 31) (h : ¬ nI a < nI b) : b ≤ a := Nat.not_lt.mp fun q => h ((nI_ltI ha hb).mpr q)
theorem x_wi1 {a m : Nat} {b d r : Int32} (hd : d = nI m) (ha : a < 2 ^ 31) (hm : m < 2 ^ 31) (hr : r = if b ≤ nI a ∧ nI a ≤ d then 1 else 0) (h : ¬ r = 0) : a ≤ m := by
  subst hd
  exact Nat.not_lt.mp fun q => absurd ((nI_ltI hm ha).mpr q) (Int32.not_lt.mpr (x_if1 hr h).2)
theorem x_wi0 {a m : Nat} {d r : Int32} (hd : d = nI m) (ha : a < 2 ^ 31) (hm : m < 2 ^ 31) (hr : r = if 0 ≤ nI a ∧ nI a ≤ d then 1 else 0) (h : r = 0) : m < a := by
  subst hd
  refine Nat.not_le.mp fun q => x_if0 hr h ⟨?_, ?_⟩
  · exact Int32.not_lt.mp fun w => absurd ((nI_ltI ha (b := 0) (by decide)).mp w) (Nat.not_lt_zero _)
  · exact Int32.not_lt.mp fun w => absurd ((nI_ltI hm ha).mp w) (by omega)
theorem f_mlz {w : Nat → Int32} {z : Nat} {x4 x5 v : Int32} (h5 : x5 = nI z) (hz : 1 ≤ z ∧ z ≤ 4) (hc : 3 < x5) (hI : f_ml w (4 - z) z x4 = v) : x4 = v := by
  have := x_gt2 h5 (b := 3) rfl (by omega) (by decide) hc
  rw [show 4 - z = 0 by omega, f_ml] at hI
  exact hI
theorem x_dv0 {q z : Nat} {a b : Int32} (hq : a = nI q) (he : b = nI (3 ^ z)) (h2 : nI q - nI q / nI (3 ^ z) * nI (3 ^ z) = nI (q % 3 ^ z)) (hm : q % 3 ^ z < 2 ^ 31) (h : a - a / b * b = 0) : q % 3 ^ z = 0 := by
  rw [hq, he, h2] at h
  exact (nI_eq hm (by decide)).mp (show nI (q % 3 ^ z) = nI 0 from h)
theorem x_dvn {q z : Nat} {a b : Int32} (hq : a = nI q) (he : b = nI (3 ^ z)) (h2 : nI q - nI q / nI (3 ^ z) * nI (3 ^ z) = nI (q % 3 ^ z)) (h : ¬ a - a / b * b = 0) : q % 3 ^ z ≠ 0 := by
  rw [hq, he, h2] at h
  exact fun w => h (by rw [w]; rfl)
theorem f_pw_lt {z pl k : Nat} (h1 : 1 ≤ z) (h3 : z ≤ 3) (hf : pl % 6 + z ≤ 6) (hk : k < 729) (hd : k / 3 ^ (pl % 6) % 3 ^ z = 0) : f_pw z pl k < 729 := by
  rw [f_pw]
  generalize pl % 6 = c at hf hd
  have hc : c = 0 ∨ c = 1 ∨ c = 2 ∨ c = 3 ∨ c = 4 ∨ c = 5 := by omega
  have hz : z = 1 ∨ z = 2 ∨ z = 3 := by omega
  rcases hz with rfl | rfl | rfl <;> rcases hc with rfl | rfl | rfl | rfl | rfl | rfl <;> simp at * <;> omega

/-- X2_scoreWith -/
def q_X2_scoreWith (σ : x_St) (z pl kk : Nat) : Int32 → x_St → Prop := f_qW σ z pl kk
set_option maxHeartbeats 4000000 in
set_option maxRecDepth 100000 in
theorem c_X2_scoreWith {l : Launch} {D : va_G} {cs : Nat → ClassId} {base : Nat} {ad : Nat → Nat → Nat} {nS nB nC nO : Nat} {σ : x_St} (z pl kk : Nat) (hz1 : 1 ≤ z) (hz : z ≤ 3) (hpl : pl < 36) (hk : kk < 729) (hgn : f_gn σ) (htc : f_tc σ) (ih : ∀ (pl' kk' : Nat) (σ' : x_St), pl < pl' → pl' ≤ 36 → kk' < 729 → f_gn σ' → f_tc σ' → x_Ci l yX2_scoreFrom cX2_scoreFrom 6 (some .int) (2 * (36 - pl') + 2) 0 0 D cs base ad (x_n nS nB nC nO) (x_s nS nB nC nO nS nC) σ' [.ref (ad 2 0), .int (nI pl'), .int (nI kk')] (f_qS σ' pl' kk') (fun σ'' => x_U D cs base ad (x_n nS nB nC nO) (x_s nS nB nC nO nS nC) σ'')) : x_Ci l yX2_scoreWith cX2_scoreWith 5 (some .int) (2 * (36 - pl) + 1) 0 0 D cs base ad (x_n nS nB nC nO) (x_s nS nB nC nO nS nC) σ [.ref (ad 2 0), .int (nI z), .int (nI pl), .int (nI kk)] (q_X2_scoreWith σ z pl kk) (fun σ' => x_U D cs base ad (x_n nS nB nC nO) (x_s nS nB nC nO nS nC) σ') := by
  refine Met.ofW (cc := cX2_scoreWith) (maxL := 5) (ret := some .int) (by decide) rfl ?_
  intro p e s m args below meth c s₁ B hml hv
  obtain ⟨rfl, hU⟩ := hv
  have hx := B.exec
  have hb := B.bytes
  have hr := B.returns
  have hts := atoms_spec (ws := Cond.code yX2_scoreWith cX2_scoreWith 5 (some .int) :: Tw) B.pre
  have hown : s.vm.findClass RX2 = some m.cls := findClass_of_methodNamed B.named
  have hlocks := B.notSynchronized
  have hc : CallFix p m c cX2_scoreWith 5 s (([.ref (ad 2 0), .int (nI z), .int (nI pl), .int (nI kk)] : List Value).toArray) Tw RX2 := ⟨hx, hb, hml, hown, fun w hw => hts w (List.mem_cons_of_mem _ hw)⟩
  have hw := x_B.start hU
  have hl := lv_entry ([.ref (ad 2 0), .int (nI z), .int (nI pl), .int (nI kk)]) (n := 5) (Nat.le_of_ble_eq_true rfl)
  rw [lg_entry_eq]
  generalize (lg_sl ([.ref (ad 2 0), .int (nI z), .int (nI pl), .int (nI kk)]) ++ List.replicate (5 - (lg_sl ([.ref (ad 2 0), .int (nI z), .int (nI pl), .int (nI kk)])).length) Slot.unset).toArray = ls at hl ⊢
  have hl : lv_has ls 5 [(0, .ref (ad 2 0)), (1, .int (nI z)), (2, .int (nI pl)), (3, .int (nI kk))] := hl
  show W p l e (x_rm (2 * (36 - pl) + 1) 0 0) s m ([.ref (ad 2 0), .int (nI z), .int (nI pl), .int (nI kk)] : List Value).toArray below meth c s.heap [] 0 0 (MQ below (va_Qi (q_X2_scoreWith σ z pl kk) (fun σ' => x_U D cs base ad (x_n nS nB nC nO) (x_s nS nB nC nO nS nC) σ') (x_A base)) ([.ref (ad 2 0), .int (nI z), .int (nI pl), .int (nI kk)] : List Value).toArray s 0 0 (x_A base)) (F0 m 0 ls [])
  refine lv_aload_n hx hb dX2_scoreWith_0 rfl (lv_at hl 0 rfl) ?_
  refine xg_r hc hw 2 0 2 rfl rfl rfl rfl (by decide) (Nat.zero_lt_one) (Nat.zero_lt_one) mw_42 dX2_scoreWith_1 ?_
  refine lv_iload_n hx hb dX2_scoreWith_4 rfl (lv_at hl 1 rfl) ?_
  refine lv_bipush (v := 36) hx hb dX2_scoreWith_5 (by decide) ?_
  refine lv_imul hx hb dX2_scoreWith_7 ?_
  refine lv_iload_n hx hb dX2_scoreWith_8 rfl (lv_at hl 2 rfl) ?_
  refine lv_iadd hx hb dX2_scoreWith_9 ?_
  refine xa_ld hc hw 12 0 (36 * z + pl) rfl (Nat.zero_lt_one) (x_36z) (by show _ < 144; omega) dX2_scoreWith_10 ?_
  refine lv_topi (fun x4_11 ex4_11 => ?_)
  refine lv_istore (lv' := [(4, .int x4_11), (0, .ref (ad 2 0)), (1, .int (nI z)), (2, .int (nI pl)), (3, .int (nI kk))]) hx hb dX2_scoreWith_11 hl (by decide) rfl (fun ls hl => ?_)
  have cut_37 : (f_W (f_S (σ 12 0)) (σ 12 0) pl kk z = -1) → ∀ (H : Heap) (locs : List Loc) (ls : Array Slot), lv_has ls 5 [(0, .ref (ad 2 0)), (1, .int (nI z)), (2, .int (nI pl)), (3, .int (nI kk))] → x_B D cs base ad (x_n nS nB nC nO) (x_s nS nB nC nO nS nC) σ s H locs → W p l e (x_rm (2 * (36 - pl) + 1) 0 0) s m ([.ref (ad 2 0), .int (nI z), .int (nI pl), .int (nI kk)] : List Value).toArray below meth c H locs 0 0 (MQ below (va_Qi (q_X2_scoreWith σ z pl kk) (fun σ' => x_U D cs base ad (x_n nS nB nC nO) (x_s nS nB nC nO nS nC) σ') (x_A base)) ([.ref (ad 2 0), .int (nI z), .int (nI pl), .int (nI kk)] : List Value).toArray s 0 0 (x_A base)) (F0 m 37 ls []) := by
    intro  hbad H locs ls hl hw
    refine lv_iconst (v := (-1)) hx hb dX2_scoreWith_37 (by decide) ?_
    exact xr_i hc hlocks hr rfl hw (⟨fun _ _ _ _ => rfl, htc, hbad.symm⟩) (Nat.le_of_ble_eq_true rfl) (Nat.le_of_ble_eq_true rfl) dX2_scoreWith_38
  refine lv_iload hx hb dX2_scoreWith_13 (lv_at hl 0 rfl) ?_
  refine lv_if_eq (tgt := 37) hx hb dX2_scoreWith_15 (by decide) (fun c_15 => ?_) (fun c_15 => ?_)
  · exact cut_37 (by rw [f_W, if_pos (Or.inl (ex4_11.symm.trans c_15))]) _ _ _ (lv_sub hl [1, 2, 3, 4] rfl) hw
  · have hpp : 0 < 3 ^ (pl % 6) := Nat.pow_pos (by decide)
    have hp7 : 3 ^ (pl % 6) ≤ 729 := Nat.pow_le_pow_right (n := 3) (j := 6) (by decide) (by omega)
    have hzp : 0 < 3 ^ z := Nat.pow_pos (by decide)
    have hz7 : 3 ^ z ≤ 729 := Nat.pow_le_pow_right (n := 3) (j := 6) (by decide) (by omega)
    have e1 : x_pow (pl % 6) = nI (3 ^ (pl % 6)) := x_pow3 (by omega)
    have e2 : x_pow z = nI (3 ^ z) := x_pow3 (by omega)
    have hq : nI kk / x_pow (pl % 6) = nI (kk / 3 ^ (pl % 6)) := (by rw [e1, pk_div (by omega) hpp (by omega)])
    have hq2 : nI (kk / 3 ^ (pl % 6)) - nI (kk / 3 ^ (pl % 6)) / nI (3 ^ z) * nI (3 ^ z) = nI (kk / 3 ^ (pl % 6) % 3 ^ z) := pk_rem (Nat.lt_of_le_of_lt (Nat.div_le_self _ _) (by omega)) hzp (by omega)
    have hm7 : kk / 3 ^ (pl % 6) % 3 ^ z < 2 ^ 31 := Nat.lt_of_lt_of_le (Nat.mod_lt _ hzp) (by omega)
    refine lv_iload_n hx hb dX2_scoreWith_18 rfl (lv_at hl 4 rfl) ?_
    refine xs_pow hc hw mw_381 dX2_scoreWith_19 (fun aP19 hX_aP19 hX2_aP19 => ?_)
    refine lv_iload_n hx hb dX2_scoreWith_22 rfl (lv_at hl 3 rfl) ?_
    refine lv_bipush (v := 6) hx hb dX2_scoreWith_23 (by decide) ?_
    refine lv_irem hx hb dX2_scoreWith_25 (by decide) ?_
    refine xs_td (j := pl % 6) hc hw hX_aP19 hX2_aP19 (pk_rem (d := 6) (by omega) (by omega) (by omega)) (by omega) (by decide) dX2_scoreWith_26 ?_
    refine lv_idiv hx hb dX2_scoreWith_27 (by rw [e1]; exact nI_ne0 hpp (by omega)) ?_
    refine xs_pow hc hw mw_381 dX2_scoreWith_28 (fun aP28 hX_aP28 hX2_aP28 => ?_)
    refine lv_iload_n hx hb dX2_scoreWith_31 rfl (lv_at hl 2 rfl) ?_
    refine xs_td (j := z) hc hw hX_aP28 hX2_aP28 (rfl) (by omega) (by decide) dX2_scoreWith_32 ?_
    refine lv_irem hx hb dX2_scoreWith_33 (by rw [e2]; exact nI_ne0 hzp (by omega)) ?_
    refine lv_if_eq (tgt := 39) hx hb dX2_scoreWith_34 (by decide) (fun c_34 => ?_) (fun c_34 => ?_)
    · have hg0 : ¬ σ 12 0 (36 * z + pl) = 0 := fun q => c_15 (ex4_11.trans q)
      have hfit : pl % 6 + z ≤ 6 := hgn z pl hz1 hz hpl hg0
      have hdv : kk / 3 ^ (pl % 6) % 3 ^ z = 0 := x_dv0 hq e2 hq2 hm7 c_34
      have hk2 : f_pw z pl kk < 729 := f_pw_lt hz1 hz hfit hk hdv
      have hpz : pl + z ≤ 36 := by omega
      refine lv_iload hx hb dX2_scoreWith_39 (lv_at hl 0 rfl) ?_
      refine lv_bipush (v := 64) hx hb dX2_scoreWith_41 (by decide) ?_
      refine lv_imul hx hb dX2_scoreWith_43 ?_
      refine lv_iconst (v := 1) hx hb dX2_scoreWith_44 (by decide) ?_
      refine lv_isub hx hb dX2_scoreWith_45 ?_
      refine lv_aload_n hx hb dX2_scoreWith_46 rfl (lv_at hl 1 rfl) ?_
      refine lv_iload_n hx hb dX2_scoreWith_47 rfl (lv_at hl 3 rfl) ?_
      refine lv_iload_n hx hb dX2_scoreWith_48 rfl (lv_at hl 2 rfl) ?_
      refine lv_iadd hx hb dX2_scoreWith_49 ?_
      refine lv_iload_n hx hb dX2_scoreWith_50 rfl (lv_at hl 2 rfl) ?_
      refine lv_iload_n hx hb dX2_scoreWith_51 rfl (lv_at hl 3 rfl) ?_
      refine lv_iload_n hx hb dX2_scoreWith_52 rfl (lv_at hl 4 rfl) ?_
      refine xc_Si hc hw (c_X2_profileWith z pl kk hz hz1 hpl) mw_389 mw_387 mw_2 mw_388 xd_X2_profileWith ⟨by simp only [x_rm]; omega, by simp only [x_rm]; omega⟩ (rfl) hl.1 (Nat.le_of_ble_eq_true rfl) dX2_scoreWith_53 ⟨Nat.le_of_ble_eq_true rfl, Nat.le_of_ble_eq_true rfl⟩ (fun r_53 σ_53 H locs hq hw => ?_)
      obtain ⟨hσ_53, hr_53⟩ := hq
      rw [hσ_53] at hw
      refine xc_Vi hc hw 2 0 (ih (pl + z) (f_pw z pl kk) σ (by omega) hpz hk2 hgn htc) rfl rfl (Nat.zero_lt_one) mw_376 mw_373 mw_2 mw_375 mp_6 xd_X2_scoreFrom ⟨by simp only [x_rm]; omega, by simp only [x_rm]; omega⟩ (by rw [hr_53, nI_add]; rfl) hl.1 (Nat.le_of_ble_eq_true rfl) dX2_scoreWith_56 ⟨Nat.le_of_ble_eq_true rfl, Nat.le_of_ble_eq_true rfl⟩ (fun r_56 σ_56 H locs hq hw => ?_)
      have hq_56 := hq
      obtain ⟨ha, hb9, hr9⟩ := hq_56
      refine lv_iadd hx hb dX2_scoreWith_59 ?_
      exact xr_i hc hlocks hr rfl hw (⟨ha, hb9, by rw [hr9, f_W, if_neg (fun q => q.elim hg0 (fun w => w hdv)), ex4_11]⟩) (Nat.le_of_ble_eq_true rfl) (Nat.le_of_ble_eq_true rfl) dX2_scoreWith_60
    · exact cut_37 (by rw [f_W, if_pos (Or.inr (x_dvn hq e2 hq2 c_34))]) _ _ _ (lv_sub hl [1, 2, 3, 4] rfl) hw
/-- X2_scoreFrom -/
def q_X2_scoreFrom (σ : x_St) (pl kk : Nat) : Int32 → x_St → Prop := f_qS σ pl kk
set_option maxHeartbeats 4000000 in
set_option maxRecDepth 100000 in
theorem c_X2_scoreFrom {l : Launch} {D : va_G} {cs : Nat → ClassId} {base : Nat} {ad : Nat → Nat → Nat} {nS nB nC nO : Nat} {σ : x_St} (pl kk : Nat) (hpl : pl ≤ 36) (hk : kk < 729) (hgn : f_gn σ) (htc : f_tc σ) (ih : ∀ (pl' kk' : Nat) (σ' : x_St), pl < pl' → pl' ≤ 36 → kk' < 729 → f_gn σ' → f_tc σ' → x_Ci l yX2_scoreFrom cX2_scoreFrom 6 (some .int) (2 * (36 - pl') + 2) 0 0 D cs base ad (x_n nS nB nC nO) (x_s nS nB nC nO nS nC) σ' [.ref (ad 2 0), .int (nI pl'), .int (nI kk')] (f_qS σ' pl' kk') (fun σ'' => x_U D cs base ad (x_n nS nB nC nO) (x_s nS nB nC nO nS nC) σ'')) : x_Ci l yX2_scoreFrom cX2_scoreFrom 6 (some .int) (2 * (36 - pl) + 2) 0 0 D cs base ad (x_n nS nB nC nO) (x_s nS nB nC nO nS nC) σ [.ref (ad 2 0), .int (nI pl), .int (nI kk)] (q_X2_scoreFrom σ pl kk) (fun σ' => x_U D cs base ad (x_n nS nB nC nO) (x_s nS nB nC nO nS nC) σ') := by
  refine Met.ofW (cc := cX2_scoreFrom) (maxL := 6) (ret := some .int) (by decide) rfl ?_
  intro p e s m args below meth c s₁ B hml hv
  obtain ⟨rfl, hU⟩ := hv
  have hx := B.exec
  have hb := B.bytes
  have hr := B.returns
  have hts := atoms_spec (ws := Cond.code yX2_scoreFrom cX2_scoreFrom 6 (some .int) :: Tw) B.pre
  have hown : s.vm.findClass RX2 = some m.cls := findClass_of_methodNamed B.named
  have hlocks := B.notSynchronized
  have hc : CallFix p m c cX2_scoreFrom 6 s (([.ref (ad 2 0), .int (nI pl), .int (nI kk)] : List Value).toArray) Tw RX2 := ⟨hx, hb, hml, hown, fun w hw => hts w (List.mem_cons_of_mem _ hw)⟩
  have hw := x_B.start hU
  have hl := lv_entry ([.ref (ad 2 0), .int (nI pl), .int (nI kk)]) (n := 6) (Nat.le_of_ble_eq_true rfl)
  rw [lg_entry_eq]
  generalize (lg_sl ([.ref (ad 2 0), .int (nI pl), .int (nI kk)]) ++ List.replicate (6 - (lg_sl ([.ref (ad 2 0), .int (nI pl), .int (nI kk)])).length) Slot.unset).toArray = ls at hl ⊢
  have hl : lv_has ls 6 [(0, .ref (ad 2 0)), (1, .int (nI pl)), (2, .int (nI kk))] := hl
  show W p l e (x_rm (2 * (36 - pl) + 2) 0 0) s m ([.ref (ad 2 0), .int (nI pl), .int (nI kk)] : List Value).toArray below meth c s.heap [] 0 0 (MQ below (va_Qi (q_X2_scoreFrom σ pl kk) (fun σ' => x_U D cs base ad (x_n nS nB nC nO) (x_s nS nB nC nO nS nC) σ') (x_A base)) ([.ref (ad 2 0), .int (nI pl), .int (nI kk)] : List Value).toArray s 0 0 (x_A base)) (F0 m 0 ls [])
  refine lv_iload_n hx hb dX2_scoreFrom_0 rfl (lv_at hl 1 rfl) ?_
  refine lv_iconst (v := 0) hx hb dX2_scoreFrom_1 (by decide) ?_
  refine lv_bipush (v := 35) hx hb dX2_scoreFrom_2 (by decide) ?_
  refine xc_Ni (host := "ButtonWorks") hc hw (c_X6_isWithin (nI pl) 0 35) mw_128 (by decide +kernel) mw_1 mw_127 xd_X6_isWithin ⟨by simp only [x_rm]; omega, by simp only [x_rm]; omega⟩ (rfl) hl.1 (Nat.le_of_ble_eq_true rfl) dX2_scoreFrom_4 ⟨Nat.le_of_ble_eq_true rfl, Nat.le_of_ble_eq_true rfl⟩ (fun r_4 σ_4 H locs hq hw => ?_)
  obtain ⟨hσ_4, hr_4⟩ := hq
  rw [hσ_4] at hw
  refine lv_if_eq (tgt := 21) hx hb dX2_scoreFrom_7 (by decide) (fun c_7 => ?_) (fun c_7 => ?_)
  · refine lv_iconst (v := 0) hx hb dX2_scoreFrom_21 (by decide) ?_
    exact xr_i hc hlocks hr rfl hw (⟨fun _ _ _ _ => rfl, htc, by first | exact absurd (x_wi0 (m := 728) rfl (by omega) (by decide) hr_15 c_18) (by omega) | rw [f_S, dif_pos (show 36 ≤ pl from x_wi0 (m := 35) rfl (by omega) (by decide) hr_4 c_7)]⟩) (Nat.le_of_ble_eq_true rfl) (Nat.le_of_ble_eq_true rfl) dX2_scoreFrom_22
  · refine lv_iload_n hx hb dX2_scoreFrom_10 rfl (lv_at hl 2 rfl) ?_
    refine lv_iconst (v := 0) hx hb dX2_scoreFrom_11 (by decide) ?_
    refine lv_sipush (v := 728) hx hb dX2_scoreFrom_12 (by decide) ?_
    refine xc_Ni (host := "ButtonWorks") hc hw (c_X6_isWithin (nI kk) 0 728) mw_128 (by decide +kernel) mw_1 mw_127 xd_X6_isWithin ⟨by simp only [x_rm]; omega, by simp only [x_rm]; omega⟩ (rfl) hl.1 (Nat.le_of_ble_eq_true rfl) dX2_scoreFrom_15 ⟨Nat.le_of_ble_eq_true rfl, Nat.le_of_ble_eq_true rfl⟩ (fun r_15 σ_15 H locs hq hw => ?_)
    obtain ⟨hσ_15, hr_15⟩ := hq
    rw [hσ_15] at hw
    refine lv_if_ne (tgt := 23) hx hb dX2_scoreFrom_18 (by decide) (fun c_18 => ?_) (fun c_18 => ?_)
    · have hp36 : pl < 36 := Nat.lt_succ_of_le (x_wi1 (m := 35) rfl (by omega) (by decide) hr_4 c_7)
      refine lv_iload_n hx hb dX2_scoreFrom_23 rfl (lv_at hl 1 rfl) ?_
      refine lv_sipush (v := 729) hx hb dX2_scoreFrom_24 (by decide) ?_
      refine lv_imul hx hb dX2_scoreFrom_27 ?_
      refine lv_iload_n hx hb dX2_scoreFrom_28 rfl (lv_at hl 2 rfl) ?_
      refine lv_iadd hx hb dX2_scoreFrom_29 ?_
      refine lv_topi (fun x3_30 ex3_30 => ?_)
      refine lv_istore_n (lv' := [(3, .int x3_30), (0, .ref (ad 2 0)), (1, .int (nI pl)), (2, .int (nI kk))]) hx hb dX2_scoreFrom_30 rfl hl (by decide) rfl (fun ls hl => ?_)
      have h3 : x3_30 = nI (729 * pl + kk) := (by rw [ex3_30]; exact x_729)
      have cut_93 : ∀ (σd : x_St), (f_ag σ σd) → (f_tc σd) → (σd 13 0 (729 * pl + kk) = f_S (σ 12 0) pl kk) → ∀ (H : Heap) (locs : List Loc) (ls : Array Slot), lv_has ls 6 [(0, .ref (ad 2 0)), (1, .int (nI pl)), (2, .int (nI kk)), (3, .int x3_30)] → x_B D cs base ad (x_n nS nB nC nO) (x_s nS nB nC nO nS nC) σd s H locs → W p l e (x_rm (2 * (36 - pl) + 2) 0 0) s m ([.ref (ad 2 0), .int (nI pl), .int (nI kk)] : List Value).toArray below meth c H locs 0 0 (MQ below (va_Qi (q_X2_scoreFrom σ pl kk) (fun σ' => x_U D cs base ad (x_n nS nB nC nO) (x_s nS nB nC nO nS nC) σ') (x_A base)) ([.ref (ad 2 0), .int (nI pl), .int (nI kk)] : List Value).toArray s 0 0 (x_A base)) (F0 m 93 ls []) := by
        intro σd had htd hv H locs ls hl hw
        refine lv_aload_n hx hb dX2_scoreFrom_93 rfl (lv_at hl 0 rfl) ?_
        refine xg_r hc hw 2 0 3 rfl rfl rfl rfl (by decide) (Nat.zero_lt_one) (Nat.zero_lt_one) mw_43 dX2_scoreFrom_94 ?_
        refine lv_iload_n hx hb dX2_scoreFrom_97 rfl (lv_at hl 3 rfl) ?_
        refine xa_ld hc hw 13 0 (729 * pl + kk) rfl (Nat.zero_lt_one) (h3) (by show _ < 26244; omega) dX2_scoreFrom_98 ?_
        exact xr_i hc hlocks hr rfl hw (⟨had, htd, hv⟩) (Nat.le_of_ble_eq_true rfl) (Nat.le_of_ble_eq_true rfl) dX2_scoreFrom_99
      refine lv_aload_n hx hb dX2_scoreFrom_31 rfl (lv_at hl 1 rfl) ?_
      refine xg_r hc hw 2 0 3 rfl rfl rfl rfl (by decide) (Nat.zero_lt_one) (Nat.zero_lt_one) mw_43 dX2_scoreFrom_32 ?_
      refine lv_iload_n hx hb dX2_scoreFrom_35 rfl (lv_at hl 0 rfl) ?_
      refine xa_ld hc hw 13 0 (729 * pl + kk) rfl (Nat.zero_lt_one) (h3) (by show _ < 26244; omega) dX2_scoreFrom_36 ?_
      refine lv_iconst (v := (-1)) hx hb dX2_scoreFrom_37 (by decide) ?_
      refine lv_icmp_ne (tgt := 93) hx hb dX2_scoreFrom_38 (by decide) (fun c_38 => ?_) (fun c_38 => ?_)
      · exact cut_93 _ (fun _ _ _ _ => rfl) (htc) ((htc pl kk hp36 hk).resolve_left c_38) _ _ _ (lv_sub hl [1, 2, 3, 0] rfl) hw
      · refine lv_aload_n hx hb dX2_scoreFrom_41 rfl (lv_at hl 1 rfl) ?_
        refine lv_iload_n hx hb dX2_scoreFrom_42 rfl (lv_at hl 2 rfl) ?_
        refine lv_iconst (v := 1) hx hb dX2_scoreFrom_43 (by decide) ?_
        refine lv_iadd hx hb dX2_scoreFrom_44 ?_
        refine lv_iload_n hx hb dX2_scoreFrom_45 rfl (lv_at hl 2 rfl) ?_
        refine lv_iload_n hx hb dX2_scoreFrom_46 rfl (lv_at hl 3 rfl) ?_
        refine xc_Si hc hw (c_X2_profileWithout pl kk hp36 hk) mw_380 mw_378 mw_2 mw_379 xd_X2_profileWithout ⟨by simp only [x_rm]; omega, by simp only [x_rm]; omega⟩ (rfl) hl.1 (Nat.le_of_ble_eq_true rfl) dX2_scoreFrom_47 ⟨Nat.le_of_ble_eq_true rfl, Nat.le_of_ble_eq_true rfl⟩ (fun r_47 σ_47 H locs hq hw => ?_)
        obtain ⟨hσ_47, hr_47⟩ := hq
        rw [hσ_47] at hw
        refine xc_Vi hc hw 2 0 (ih (pl + 1) (f_wo pl kk) σ (by omega) (by omega) (Nat.lt_of_le_of_lt f_wo_le hk) hgn htc) rfl rfl (Nat.zero_lt_one) mw_376 mw_373 mw_2 mw_375 mp_6 xd_X2_scoreFrom ⟨by simp only [x_rm]; omega, by simp only [x_rm]; omega⟩ (by rw [hr_47, nI_1]; rfl) hl.1 (Nat.le_of_ble_eq_true rfl) dX2_scoreFrom_50 ⟨Nat.le_of_ble_eq_true rfl, Nat.le_of_ble_eq_true rfl⟩ (fun r_50 σ_50 H locs hq hw => ?_)
        have hq_50 := hq
        obtain ⟨ha1, hb1, hr1⟩ := hq_50
        refine lv_istore (lv' := [(4, .int r_50), (3, .int x3_30), (0, .ref (ad 2 0)), (1, .int (nI pl)), (2, .int (nI kk))]) hx hb dX2_scoreFrom_53 hl (by decide) rfl (fun ls hl => ?_)
        refine lv_iconst (v := 1) hx hb dX2_scoreFrom_55 (by decide) ?_
        refine lv_istore (lv' := [(5, .int 1), (4, .int r_50), (3, .int x3_30), (0, .ref (ad 2 0)), (1, .int (nI pl)), (2, .int (nI kk))]) hx hb dX2_scoreFrom_56 hl (by decide) rfl (fun ls hl => ?_)
        have cut_58 : ∀ (N : Nat) (z : Nat) (x4 : Int32) (x5 : Int32) (σc : x_St), (1 ≤ z ∧ z ≤ 4) → (x5 = nI z) → (f_ag σ σc) → (f_tc σc) → (f_ml (f_W (f_S (σ 12 0)) (σ 12 0) pl kk) (4 - z) z x4 = f_S (σ 12 0) pl kk) → (4 - z < N) → ∀ (H : Heap) (locs : List Loc) (ls : Array Slot), lv_has ls 6 [(0, .ref (ad 2 0)), (1, .int (nI pl)), (2, .int (nI kk)), (3, .int x3_30), (4, .int x4), (5, .int x5)] → x_B D cs base ad (x_n nS nB nC nO) (x_s nS nB nC nO nS nC) σc s H locs → W p l e (x_rm (2 * (36 - pl) + 2) 0 0) s m ([.ref (ad 2 0), .int (nI pl), .int (nI kk)] : List Value).toArray below meth c H locs 0 0 (MQ below (va_Qi (q_X2_scoreFrom σ pl kk) (fun σ' => x_U D cs base ad (x_n nS nB nC nO) (x_s nS nB nC nO nS nC) σ') (x_A base)) ([.ref (ad 2 0), .int (nI pl), .int (nI kk)] : List Value).toArray s 0 0 (x_A base)) (F0 m 58 ls []) := by
          intro N
          induction N with
          | zero => intro z x4 x5 σc hz h5 hac htcc hI hN; exact absurd hN (Nat.not_lt_zero _)
          | succ N ih_58 =>
            intro z x4 x5 σc hz h5 hac htcc hI hN H locs ls hl hw
            refine lv_iload hx hb dX2_scoreFrom_58 (lv_at hl 5 rfl) ?_
            refine lv_iconst (v := 3) hx hb dX2_scoreFrom_60 (by decide) ?_
            refine lv_icmp_gt (tgt := 85) hx hb dX2_scoreFrom_61 (by decide) (fun c_61 => ?_) (fun c_61 => ?_)
            · refine lv_aload_n hx hb dX2_scoreFrom_85 rfl (lv_at hl 0 rfl) ?_
              refine xg_r hc hw 2 0 3 rfl rfl rfl rfl (by decide) (Nat.zero_lt_one) (Nat.zero_lt_one) mw_43 dX2_scoreFrom_86 ?_
              refine lv_iload_n hx hb dX2_scoreFrom_89 rfl (lv_at hl 3 rfl) ?_
              refine lv_iload hx hb dX2_scoreFrom_90 (lv_at hl 4 rfl) ?_
              refine xa_st hc hw 13 0 (729 * pl + kk) rfl (Nat.zero_lt_one) (h3) (by show _ < 26244; omega) dX2_scoreFrom_92 (fun H locs hw => ?_)
              have hIz := f_mlz h5 hz c_61 hI
              exact cut_93 _ (fun a b d h => (x_up_n (fun q => h q.1)).trans (hac a b d h)) (f_tc_up hac htcc hp36 hk hIz) (x_up_s.trans hIz) _ _ _ (lv_sub hl [0, 1, 2, 3] rfl) hw
            · have hzl : z ≤ 3 := x_ngt h5 (b := 3) rfl (by omega) (by decide) c_61
              have hst : 4 - z = (4 - (z + 1)) + 1 := by omega
              rw [hst, f_ml] at hI
              refine lv_iload hx hb dX2_scoreFrom_64 (lv_at hl 4 rfl) ?_
              refine lv_aload_n hx hb dX2_scoreFrom_66 rfl (lv_at hl 0 rfl) ?_
              refine lv_iload hx hb dX2_scoreFrom_67 (lv_at hl 5 rfl) ?_
              refine lv_iload_n hx hb dX2_scoreFrom_69 rfl (lv_at hl 1 rfl) ?_
              refine lv_iload_n hx hb dX2_scoreFrom_70 rfl (lv_at hl 2 rfl) ?_
              refine xc_Vi hc hw 2 0 (c_X2_scoreWith z pl kk hz.1 hzl hp36 hk (hgn.up hac) htcc ih) rfl rfl (Nat.zero_lt_one) mw_386 mw_383 mw_2 mw_385 mp_7 xd_X2_scoreWith ⟨by simp only [x_rm]; omega, by simp only [x_rm]; omega⟩ (by rw [h5]; rfl) hl.1 (Nat.le_of_ble_eq_true rfl) dX2_scoreFrom_71 ⟨Nat.le_of_ble_eq_true rfl, Nat.le_of_ble_eq_true rfl⟩ (fun r_71 σ_71 H locs hq hw => ?_)
              have hq_71 := hq
              obtain ⟨ha2, hb2, hr2⟩ := hq_71
              refine va_mmax hx hb (hml.trans hl.1.symm) hown (hc.2.2.2.2 _ mw_392) (hc.2.2.2.2 _ mw_393) (hc.2.2.2.2 _ mw_11) (hc.2.2.2.2 _ mw_394) (by simp only [x_rm]; omega) (Nat.le_of_ble_eq_true rfl) (by simp only [x_rm]; omega) (by simp only [x_rm]; omega) dX2_scoreFrom_74 ?_
              refine lv_topi (fun x4_77 ex4_77 => ?_)
              refine lv_istore (lv' := [(4, .int x4_77), (0, .ref (ad 2 0)), (1, .int (nI pl)), (2, .int (nI kk)), (3, .int x3_30), (5, .int x5)]) hx hb dX2_scoreFrom_77 hl (by decide) rfl (fun ls hl => ?_)
              obtain ⟨x5_79, ex5_79⟩ : ∃ y : Int32, y = x5 + 1 := ⟨_, rfl⟩
              refine lv_iinc (v := x5_79) (lv' := [(5, .int x5_79), (4, .int x4_77), (0, .ref (ad 2 0)), (1, .int (nI pl)), (2, .int (nI kk)), (3, .int x3_30)]) hx hb dX2_scoreFrom_79 hl (k := 5) rfl (by rw [ex5_79]; rfl) (by decide) rfl (fun ls hl => ?_)
              refine lv_goto (tgt := 58) hx hb dX2_scoreFrom_82 (by decide) ?_
              exact ih_58 (z + 1) _ _ _ (⟨by omega, by omega⟩) (by rw [ex5_79, h5, nI_1]) (hac.tr ha2) (hb2) (by rw [ex4_77, hr2, hac.g]; exact hI) (by omega) _ _ _ (lv_sub hl [2, 3, 4, 5, 1, 0] rfl) hw
        exact cut_58 _ 1 _ _ _ (⟨by decide, by decide⟩) (rfl) (ha1) (hb1) (by rw [hr1]; exact (f_S_eq hp36).symm) (Nat.lt_succ_self _) _ _ _ (lv_sub hl [3, 4, 5, 2, 1, 0] rfl) hw
    · refine lv_iconst (v := 0) hx hb dX2_scoreFrom_21 (by decide) ?_
      exact xr_i hc hlocks hr rfl hw (⟨fun _ _ _ _ => rfl, htc, by first | exact absurd (x_wi0 (m := 728) rfl (by omega) (by decide) hr_15 c_18) (by omega) | rw [f_S, dif_pos (show 36 ≤ pl from x_wi0 (m := 35) rfl (by omega) (by decide) hr_4 c_7)]⟩) (Nat.le_of_ble_eq_true rfl) (Nat.le_of_ble_eq_true rfl) dX2_scoreFrom_22
theorem c_X2_sF {l : Launch} {D : va_G} {cs : Nat → ClassId} {base : Nat} {ad : Nat → Nat → Nat} {nS nB nC nO : Nat} : ∀ (N pl kk : Nat) (σ : x_St), 36 - pl < N → pl ≤ 36 → kk < 729 → f_gn σ → f_tc σ → x_Ci l yX2_scoreFrom cX2_scoreFrom 6 (some .int) (2 * (36 - pl) + 2) 0 0 D cs base ad (x_n nS nB nC nO) (x_s nS nB nC nO nS nC) σ [.ref (ad 2 0), .int (nI pl), .int (nI kk)] (f_qS σ pl kk) (fun σ'' => x_U D cs base ad (x_n nS nB nC nO) (x_s nS nB nC nO nS nC) σ'')
  | 0, _, _, _, h, _, _, _, _ => absurd h (Nat.not_lt_zero _)
  | N + 1, pl, kk, σ, h, hp, hk, hg, ht => c_X2_scoreFrom pl kk hp hk hg ht (fun pl' kk' σ' h1 h2 h3 h4 h5 => c_X2_sF N pl' kk' σ' (by omega) h2 h3 h4 h5)
