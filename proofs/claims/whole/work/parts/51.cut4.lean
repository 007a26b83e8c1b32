def f_czl (w : Nat → Int32) (b : Int32) : Nat → Nat
  | 0 => 0
  | z + 1 => if w (z + 1) = b then z + 1 else f_czl w b z
def f_cz (g : Nat → Int32) (pl k : Nat) : Nat := f_czl (f_W (f_S g) g pl k) (f_S g pl k) 3
theorem f_czl_le (w : Nat → Int32) (b : Int32) : ∀ z, f_czl w b z ≤ z
  | 0 => Nat.le_refl _
  | z + 1 => by
    rw [f_czl]
    split
    · exact Nat.le_refl _
    · exact Nat.le_succ_of_le (f_czl_le w b z)
theorem f_czl_eq (w : Nat → Int32) (b : Int32) : ∀ z, 0 < f_czl w b z → w (f_czl w b z) = b
  | 0, h => absurd h (Nat.lt_irrefl _)
  | z + 1, h => by
    rw [f_czl] at h ⊢
    split
    · assumption
    · rename_i hn
      rw [if_neg hn] at h
      exact f_czl_eq w b z h
theorem f_cz_3 (g : Nat → Int32) (pl k : Nat) : f_cz g pl k ≤ 3 := f_czl_le _ _ 3
def f_cs (g : Nat → Int32) : Nat → Nat → Nat → (Nat → Nat) → Nat → Nat
  | 0, _, _, t => t
  | f + 1, pl, k, t => if 36 ≤ pl then t else f_cs g f (pl + max 1 (f_cz g pl k)) (if 0 < f_cz g pl k then f_pw (f_cz g pl k) pl k else f_wo pl k) (fun q => if q = pl then f_cz g pl k else t q)
theorem f_cs_end {g : Nat → Int32} {f pl k : Nat} {t : Nat → Nat} (h : 36 ≤ pl) : f_cs g f pl k t = t := by
  cases f with
  | zero => rfl
  | succ f => rw [f_cs, if_pos h]
def f_ag2 (σ σ' : x_St) : Prop := ∀ a b d : Nat, a ≠ 13 → a ≠ 14 → σ' a b d = σ a b d
theorem f_ag2.g {σ σ' : x_St} (h : f_ag2 σ σ') : σ' 12 0 = σ 12 0 := by
  funext d
  exact h 12 0 d (by decide) (by decide)
theorem f_gn.up2 {σ σ' : x_St} (h : f_gn σ) (h2 : f_ag2 σ σ') : f_gn σ' := by
  unfold f_gn
  rw [h2.g]
  exact h
def f_gb (g : Nat → Int32) : Prop := ∀ d, d < 144 → 36 ≤ d → ∃ t, t ≤ 999 ∧ g d = nI t
theorem f_tc_fi {σ : x_St} {i j : Nat} {v : Int32} (h : f_tc σ) : f_tc (f_fi σ 14 i v j) := by
  intro pl k hp hk
  have e : f_fi σ 14 i v j 12 0 = σ 12 0 := by
    funext d
    exact if_neg (by simp)
  have e2 : f_fi σ 14 i v j 13 0 (729 * pl + k) = σ 13 0 (729 * pl + k) := if_neg (by simp)
  rw [e, e2]
  exact h pl k hp hk
theorem f_tc_14 {σ : x_St} {i j : Nat} {v : Int32} (h : f_tc σ) : f_tc (x_up σ 14 i j v) := by
  intro pl k hp hk
  have e : x_up σ 14 i j v 12 0 = σ 12 0 := by
    funext d
    exact x_up_n (by simp)
  rw [e, x_up_n (by simp)]
  exact h pl k hp hk
theorem x_mx1 {z : Nat} (h : z < 2 ^ 31) : (if (1 : Int32) < nI z then nI z else 1) = nI (max 1 z) := by
  show (if nI 1 < nI z then nI z else nI 1) = nI (max 1 z)
  by_cases q : 1 < z
  · rw [if_pos ((nI_ltI (a := 1) (by decide) h).mpr q), Nat.max_eq_right (by omega)]
  · rw [if_neg (fun w => q ((nI_ltI (a := 1) (by decide) h).mp w)), Nat.max_eq_left (by omega)]
theorem f_mxok {x w : Int32} {a b : Nat} (hx : x = nI a) (hw : w = -1 ∨ w = nI b) (ha : a < 2 ^ 31) (hb : b < 2 ^ 31) : ∃ m, (m = a ∨ m = b) ∧ a ≤ m ∧ (if x < w then w else x) = nI m := by
  subst hx
  rcases hw with rfl | rfl
  · refine ⟨a, Or.inl rfl, Nat.le_refl _, if_neg ?_⟩
    intro h
    have h0 : nI 0 ≤ nI a := (nI_leI (by decide) ha).mpr (Nat.zero_le _)
    exact absurd (Int32.lt_of_le_of_lt h0 h) (by decide)
  · by_cases q : a < b
    · exact ⟨b, Or.inr rfl, by omega, if_pos ((nI_ltI ha hb).mpr q)⟩
    · exact ⟨a, Or.inl rfl, Nat.le_refl _, if_neg (fun w => q ((nI_ltI ha hb).mp w))⟩
theorem f_W_ok {g : Nat → Int32} {F : Nat → Nat → Int32} {pl k z M : Nat} (hg : f_gb g) (hp : pl < 36) (h1 : 1 ≤ z) (h3 : z ≤ 3) (hM : M ≤ 3000000) (hF : ∃ t, t ≤ M ∧ F (pl + z) (f_pw z pl k) = nI t) : f_W F g pl k z = -1 ∨ ∃ b, b ≤ M + 63936 ∧ f_W F g pl k z = nI b := by
  rw [f_W]
  split
  · exact Or.inl rfl
  · rename_i hn
    obtain ⟨t, ht, et⟩ := hF
    obtain ⟨u, hu, eu⟩ := hg (36 * z + pl) (by omega) (by omega)
    have hu1 : 0 < u := Nat.pos_of_ne_zero (fun q => hn (Or.inl (by rw [eu, q]; rfl)))
    refine Or.inr ⟨u * 64 - 1 + t, by omega, ?_⟩
    rw [eu, et, show (64 : Int32) = nI 64 from rfl, pk_mul, show (1 : Int32) = nI 1 from rfl, pk_sub (by omega), nI_add]
theorem f_S_ok {g : Nat → Int32} (hg : f_gb g) : ∀ (N pl k : Nat), 36 - pl < N → ∃ t, t ≤ 63936 * (36 - pl) ∧ f_S g pl k = nI t
  | 0, _, _, h => absurd h (Nat.not_lt_zero _)
  | N + 1, pl, k, h => by
    by_cases hp : 36 ≤ pl
    · exact ⟨0, Nat.zero_le _, by rw [f_S, dif_pos hp]; rfl⟩
    · have hp : pl < 36 := by omega
      rw [f_S_eq hp]
      obtain ⟨t0, h0, e0⟩ := f_S_ok hg N (pl + 1) (f_wo pl k) (by omega)
      have hw : ∀ z, 1 ≤ z → z ≤ 3 → ∃ b, b ≤ 63936 * (36 - pl) ∧ (f_W (f_S g) g pl k z = -1 ∨ f_W (f_S g) g pl k z = nI b) := by
        intro z h1 h3
        obtain ⟨t, ht, et⟩ := f_S_ok hg N (pl + z) (f_pw z pl k) (by omega)
        rcases f_W_ok (F := f_S g) (k := k) hg hp h1 h3 (M := 63936 * (35 - pl)) (by omega) ⟨t, by omega, et⟩ with q | ⟨b, hb, eb⟩
        · exact ⟨0, Nat.zero_le _, Or.inl q⟩
        · exact ⟨b, by omega, Or.inr eb⟩
      obtain ⟨b1, hb1, e1⟩ := hw 1 (by decide) (by decide)
      obtain ⟨b2, hb2, e2⟩ := hw 2 (by decide) (by decide)
      obtain ⟨b3, hb3, e3⟩ := hw 3 (by decide) (by decide)
      obtain ⟨m1, p1, q1, w1⟩ := f_mxok e0 e1 (by omega) (by omega)
      obtain ⟨m2, p2, q2, w2⟩ := f_mxok w1 e2 (by omega) (by omega)
      obtain ⟨m3, p3, q3, w3⟩ := f_mxok w2 e3 (by omega) (by omega)
      exact ⟨m3, by omega, w3⟩
theorem f_cz_ok {σ : x_St} {pl k : Nat} (hg : f_gn σ) (hb : f_gb (σ 12 0)) (hp : pl < 36) (hz : 0 < f_cz (σ 12 0) pl k) : ¬ σ 12 0 (36 * f_cz (σ 12 0) pl k + pl) = 0 ∧ k / 3 ^ (pl % 6) % 3 ^ f_cz (σ 12 0) pl k = 0 ∧ pl % 6 + f_cz (σ 12 0) pl k ≤ 6 := by
  have h := f_czl_eq _ _ 3 hz
  obtain ⟨t, ht, et⟩ := f_S_ok hb 37 pl k (by omega)
  have hn : ¬ f_W (f_S (σ 12 0)) (σ 12 0) pl k (f_cz (σ 12 0) pl k) = -1 := by
    intro q
    have w : nI t = -1 := et.symm.trans (h.symm.trans q)
    have := congrArg Int32.toInt w
    rw [nI_toInt (by omega)] at this
    simp at this
  rw [f_W] at hn
  split at hn
  · exact absurd rfl hn
  · rename_i hh
    have h1 : ¬ σ 12 0 (36 * f_cz (σ 12 0) pl k + pl) = 0 := fun q => hh (Or.inl q)
    exact ⟨h1, Classical.byContradiction (fun q => hh (Or.inr q)), hg _ pl hz (f_cz_3 _ _ _) hp h1⟩
theorem f_cz_lt {σ : x_St} {pl k : Nat} (hg : f_gn σ) (hb : f_gb (σ 12 0)) (hp : pl < 36) (hk : k < 729) (hz : 0 < f_cz (σ 12 0) pl k) : f_pw (f_cz (σ 12 0) pl k) pl k < 729 := by
  obtain ⟨_, h2, h3⟩ := f_cz_ok hg hb hp hz
  exact f_pw_lt hz (f_cz_3 _ _ _) h3 hk h2
def f_w1 (i own place : Nat) (τ : x_St) : x_St := if τ 14 0 place ≤ 0 then x_up τ 16 i own (τ 14 0 place) else
  x_up (x_up (x_up (x_up τ 16 i own (τ 14 0 place)) 17 i own (m_th (f_G τ i) 6 6 place (x_c (τ 14 0 place)))) 5 i 7 (τ 5 i 7 + τ 12 0 (36 * x_c (τ 14 0 place) + place))) 5 i 8 (τ 5 i 8 + 1)
theorem f_w1_m {τ : x_St} {i own q : Nat} {v t : Int32} : x_up (x_up (x_up (x_up τ 16 i own v) 17 i own t) 5 i 7 (x_up (x_up τ 16 i own v) 17 i own t 5 i 7 + x_up (x_up τ 16 i own v) 17 i own t 12 0 q)) 5 i 8 (x_up (x_up (x_up τ 16 i own v) 17 i own t) 5 i 7 (x_up (x_up τ 16 i own v) 17 i own t 5 i 7 + x_up (x_up τ 16 i own v) 17 i own t 12 0 q) 5 i 8 + 1) = x_up (x_up (x_up (x_up τ 16 i own v) 17 i own t) 5 i 7 (τ 5 i 7 + τ 12 0 q)) 5 i 8 (τ 5 i 8 + 1) := by
  simp [x_up_n]
theorem f_w1_G {τ : x_St} {i j own : Nat} {v : Int32} : f_G (x_up τ 16 i own v) j = f_G τ j := by
  funext y x
  exact x_up_n (by simp)
def f_wi (i C r : Nat) : Nat → Nat → x_St → x_St
  | 0, _, τ => τ
  | f + 1, c, τ => f_wi i C r f (c + 1) (f_w1 i (C * r + c) (6 * r + c) τ)
def f_wo9 (i C : Nat) : Nat → Nat → x_St → x_St
  | 0, _, τ => τ
  | f + 1, r, τ => f_wo9 i C f (r + 1) (f_wi i C r C 0 τ)

/-- X2_chosenSize -/
def q_X2_chosenSize (σ : x_St) (pl kk : Nat) : Int32 → x_St → Prop := fun r σ' => f_ag σ σ' ∧ f_tc σ' ∧ r = nI (f_cz (σ 12 0) pl kk)
set_option maxHeartbeats 4000000 in
set_option maxRecDepth 100000 in
theorem c_X2_chosenSize {l : Launch} {D : va_G} {cs : Nat → ClassId} {base : Nat} {ad : Nat → Nat → Nat} {nS nB nC nO : Nat} {σ : x_St} (pl kk : Nat) (hpl : pl < 36) (hk : kk < 729) (hgn : f_gn σ) (htc : f_tc σ) : x_Ci l yX2_chosenSize cX2_chosenSize 5 (some .int) 76 0 0 D cs base ad (x_n nS nB nC nO) (x_s nS nB nC nO nS nC) σ [.ref (ad 2 0), .int (nI pl), .int (nI kk)] (q_X2_chosenSize σ pl kk) (fun σ' => x_U D cs base ad (x_n nS nB nC nO) (x_s nS nB nC nO nS nC) σ') := by
  refine Met.ofW (cc := cX2_chosenSize) (maxL := 5) (ret := some .int) (by decide) rfl ?_
  intro p e s m args below meth c s₁ B hml hv
  obtain ⟨rfl, hU⟩ := hv
  have hx := B.exec
  have hb := B.bytes
  have hr := B.returns
  have hts := atoms_spec (ws := Cond.code yX2_chosenSize cX2_chosenSize 5 (some .int) :: Tw) B.pre
  have hown : s.vm.findClass RX2 = some m.cls := findClass_of_methodNamed B.named
  have hlocks := B.notSynchronized
  have hc : CallFix p m c cX2_chosenSize 5 s (([.ref (ad 2 0), .int (nI pl), .int (nI kk)] : List Value).toArray) Tw RX2 := ⟨hx, hb, hml, hown, fun w hw => hts w (List.mem_cons_of_mem _ hw)⟩
  have hw := x_B.start hU
  have hl := lv_entry ([.ref (ad 2 0), .int (nI pl), .int (nI kk)]) (n := 5) (Nat.le_of_ble_eq_true rfl)
  rw [lg_entry_eq]
  generalize (lg_sl ([.ref (ad 2 0), .int (nI pl), .int (nI kk)]) ++ List.replicate (5 - (lg_sl ([.ref (ad 2 0), .int (nI pl), .int (nI kk)])).length) Slot.unset).toArray = ls at hl ⊢
  have hl : lv_has ls 5 [(0, .ref (ad 2 0)), (1, .int (nI pl)), (2, .int (nI kk))] := hl
  show W p l e (x_rm 76 0 0) s m ([.ref (ad 2 0), .int (nI pl), .int (nI kk)] : List Value).toArray below meth c s.heap [] 0 0 (MQ below (va_Qi (q_X2_chosenSize σ pl kk) (fun σ' => x_U D cs base ad (x_n nS nB nC nO) (x_s nS nB nC nO nS nC) σ') (x_A base)) ([.ref (ad 2 0), .int (nI pl), .int (nI kk)] : List Value).toArray s 0 0 (x_A base)) (F0 m 0 ls [])
  refine lv_aload_n hx hb dX2_chosenSize_0 rfl (lv_at hl 0 rfl) ?_
  refine lv_iload_n hx hb dX2_chosenSize_1 rfl (lv_at hl 1 rfl) ?_
  refine lv_iload_n hx hb dX2_chosenSize_2 rfl (lv_at hl 2 rfl) ?_
  refine xc_Vi hc hw 2 0 (c_X2_sF 37 pl kk σ (by omega) (by omega) hk hgn htc) rfl rfl (Nat.zero_lt_one) mw_376 mw_373 mw_2 mw_375 mp_6 xd_X2_scoreFrom ⟨by simp only [x_rm]; omega, by simp only [x_rm]; omega⟩ (rfl) hl.1 (Nat.le_of_ble_eq_true rfl) dX2_chosenSize_3 ⟨Nat.le_of_ble_eq_true rfl, Nat.le_of_ble_eq_true rfl⟩ (fun r_3 σ_3 H locs hq hw => ?_)
  have hq_3 := hq
  obtain ⟨ha1, hb1, hr1⟩ := hq_3
  refine lv_istore_n (lv' := [(3, .int r_3), (0, .ref (ad 2 0)), (1, .int (nI pl)), (2, .int (nI kk))]) hx hb dX2_chosenSize_6 rfl hl (by decide) rfl (fun ls hl => ?_)
  refine lv_iconst (v := 3) hx hb dX2_chosenSize_7 (by decide) ?_
  refine lv_istore (lv' := [(4, .int 3), (3, .int r_3), (0, .ref (ad 2 0)), (1, .int (nI pl)), (2, .int (nI kk))]) hx hb dX2_chosenSize_8 hl (by decide) rfl (fun ls hl => ?_)
  have cut_10 : ∀ (N : Nat) (z : Nat) (x4 : Int32) (σc : x_St), (z ≤ 3) → (x4 = nI z) → (f_ag σ σc) → (f_tc σc) → (f_czl (f_W (f_S (σ 12 0)) (σ 12 0) pl kk) (f_S (σ 12 0) pl kk) z = f_cz (σ 12 0) pl kk) → (z < N) → ∀ (H : Heap) (locs : List Loc) (ls : Array Slot), lv_has ls 5 [(0, .ref (ad 2 0)), (1, .int (nI pl)), (2, .int (nI kk)), (3, .int r_3), (4, .int x4)] → x_B D cs base ad (x_n nS nB nC nO) (x_s nS nB nC nO nS nC) σc s H locs → W p l e (x_rm 76 0 0) s m ([.ref (ad 2 0), .int (nI pl), .int (nI kk)] : List Value).toArray below meth c H locs 0 0 (MQ below (va_Qi (q_X2_chosenSize σ pl kk) (fun σ' => x_U D cs base ad (x_n nS nB nC nO) (x_s nS nB nC nO nS nC) σ') (x_A base)) ([.ref (ad 2 0), .int (nI pl), .int (nI kk)] : List Value).toArray s 0 0 (x_A base)) (F0 m 10 ls []) := by
    intro N
    induction N with
    | zero => intro z x4 σc hz h4 hac htcc hI hN; exact absurd hN (Nat.not_lt_zero _)
    | succ N ih_10 =>
      intro z x4 σc hz h4 hac htcc hI hN H locs ls hl hw
      refine lv_iload hx hb dX2_chosenSize_10 (lv_at hl 4 rfl) ?_
      refine lv_if_le (tgt := 36) hx hb dX2_chosenSize_12 (by decide) (fun c_12 => ?_) (fun c_12 => ?_)
      · refine lv_iconst (v := 0) hx hb dX2_chosenSize_36 (by decide) ?_
        exact xr_i hc hlocks hr rfl hw (⟨hac, htcc, by rw [x_z0 h4 (by omega) c_12, f_czl] at hI; rw [← hI]; rfl⟩) (Nat.le_of_ble_eq_true rfl) (Nat.le_of_ble_eq_true rfl) dX2_chosenSize_37
      · obtain ⟨t, rfl⟩ : ∃ t, z = t + 1 := ⟨z - 1, by have q := x_npos h4 c_12; omega⟩
        rw [f_czl] at hI
        refine lv_aload_n hx hb dX2_chosenSize_15 rfl (lv_at hl 0 rfl) ?_
        refine lv_iload hx hb dX2_chosenSize_16 (lv_at hl 4 rfl) ?_
        refine lv_iload_n hx hb dX2_chosenSize_18 rfl (lv_at hl 1 rfl) ?_
        refine lv_iload_n hx hb dX2_chosenSize_19 rfl (lv_at hl 2 rfl) ?_
        refine xc_Vi hc hw 2 0 (c_X2_scoreWith (t + 1) pl kk (by omega) hz hpl hk (hgn.up hac) htcc (fun pl' kk' σ' _ h2 h3 h4 h5 => c_X2_sF 37 pl' kk' σ' (by omega) h2 h3 h4 h5)) rfl rfl (Nat.zero_lt_one) mw_386 mw_383 mw_2 mw_385 mp_7 xd_X2_scoreWith ⟨by simp only [x_rm]; omega, by simp only [x_rm]; omega⟩ (by rw [h4]; rfl) hl.1 (Nat.le_of_ble_eq_true rfl) dX2_chosenSize_20 ⟨Nat.le_of_ble_eq_true rfl, Nat.le_of_ble_eq_true rfl⟩ (fun r_20 σ_20 H locs hq hw => ?_)
        have hq_20 := hq
        obtain ⟨ha2, hb2, hr2⟩ := hq_20
        rw [hac.g] at hr2
        refine lv_iload_n hx hb dX2_chosenSize_23 rfl (lv_at hl 3 rfl) ?_
        refine lv_icmp_ne (tgt := 30) hx hb dX2_chosenSize_24 (by decide) (fun c_24 => ?_) (fun c_24 => ?_)
        · obtain ⟨x4_30, ex4_30⟩ : ∃ y : Int32, y = x4 + (-1) := ⟨_, rfl⟩
          refine lv_iinc (v := x4_30) (lv' := [(4, .int x4_30), (0, .ref (ad 2 0)), (1, .int (nI pl)), (2, .int (nI kk)), (3, .int r_3)]) hx hb dX2_chosenSize_30 hl (k := 4) rfl (by rw [ex4_30]; rfl) (by decide) rfl (fun ls hl => ?_)
          refine lv_goto (tgt := 10) hx hb dX2_chosenSize_33 (by decide) ?_
          exact ih_10 t _ _ (by omega) (by rw [ex4_30, h4, pk_m1]) (hac.tr ha2) (hb2) (by rw [if_neg (fun q => c_24 (by rw [hr2, hr1, q]))] at hI; exact hI) (by omega) _ _ _ (lv_sub hl [1, 2, 3, 4, 0] rfl) hw
        · refine lv_iload hx hb dX2_chosenSize_27 (lv_at hl 4 rfl) ?_
          exact xr_i hc hlocks hr rfl hw (⟨hac.tr ha2, hb2, by rw [if_pos (by rw [← hr2, c_24, hr1])] at hI; rw [h4, hI]⟩) (Nat.le_of_ble_eq_true rfl) (Nat.le_of_ble_eq_true rfl) dX2_chosenSize_29
  exact cut_10 _ 3 _ _ (by decide) (rfl) (ha1) (hb1) (rfl) (Nat.lt_succ_self _) _ _ _ (lv_sub hl [2, 3, 4, 1, 0] rfl) hw
/-- X2_chooseSizes -/
def q_X2_chooseSizes (σ : x_St) : x_St → Prop := fun σ' => f_ag2 σ σ' ∧ ∀ q, q < 36 → σ' 14 0 q = nI (f_cs (σ 12 0) 36 0 0 (fun _ => 0) q)
set_option maxHeartbeats 4000000 in
set_option maxRecDepth 100000 in
theorem c_X2_chooseSizes {l : Launch} {D : va_G} {cs : Nat → ClassId} {base : Nat} {ad : Nat → Nat → Nat} {nS nB nC nO : Nat} {σ : x_St} (hgn : f_gn σ) (htc : f_tc σ) (hgb : f_gb (σ 12 0)) : x_Cv l yX2_chooseSizes cX2_chooseSizes 4 78 0 0 D cs base ad (x_n nS nB nC nO) (x_s nS nB nC nO nS nC) σ [.ref (ad 2 0)] (q_X2_chooseSizes σ) (fun σ' => x_U D cs base ad (x_n nS nB nC nO) (x_s nS nB nC nO nS nC) σ') := by
  refine Met.ofW (cc := cX2_chooseSizes) (maxL := 4) (ret := none) (by decide) rfl ?_
  intro p e s m args below meth c s₁ B hml hv
  obtain ⟨rfl, hU⟩ := hv
  have hx := B.exec
  have hb := B.bytes
  have hr := B.returns
  have hts := atoms_spec (ws := Cond.code yX2_chooseSizes cX2_chooseSizes 4 (none) :: Tw) B.pre
  have hown : s.vm.findClass RX2 = some m.cls := findClass_of_methodNamed B.named
  have hlocks := B.notSynchronized
  have hc : CallFix p m c cX2_chooseSizes 4 s (([.ref (ad 2 0)] : List Value).toArray) Tw RX2 := ⟨hx, hb, hml, hown, fun w hw => hts w (List.mem_cons_of_mem _ hw)⟩
  have hw := x_B.start hU
  have hl := lv_entry ([.ref (ad 2 0)]) (n := 4) (Nat.le_of_ble_eq_true rfl)
  rw [lg_entry_eq]
  generalize (lg_sl ([.ref (ad 2 0)]) ++ List.replicate (4 - (lg_sl ([.ref (ad 2 0)])).length) Slot.unset).toArray = ls at hl ⊢
  have hl : lv_has ls 4 [(0, .ref (ad 2 0))] := hl
  show W p l e (x_rm 78 0 0) s m ([.ref (ad 2 0)] : List Value).toArray below meth c s.heap [] 0 0 (MQ below (va_Qv (q_X2_chooseSizes σ) (fun σ' => x_U D cs base ad (x_n nS nB nC nO) (x_s nS nB nC nO nS nC) σ') (x_A base)) ([.ref (ad 2 0)] : List Value).toArray s 0 0 (x_A base)) (F0 m 0 ls [])
  refine lv_aload_n hx hb dX2_chooseSizes_0 rfl (lv_at hl 0 rfl) ?_
  refine xg_r hc hw 2 0 4 rfl rfl rfl rfl (by decide) (Nat.zero_lt_one) (Nat.zero_lt_one) mw_44 dX2_chooseSizes_1 ?_
  refine lv_iconst (v := 0) hx hb dX2_chooseSizes_4 (by decide) ?_
  refine xc_Sv hc hw (c_J7_fill_53178 14 0 0 rfl Nat.zero_lt_one) mw_364 mw_362 mw_12 mw_363 xd_J7_fill_53178 ⟨by decide, by decide⟩ (rfl) hl.1 (Nat.le_of_ble_eq_true rfl) dX2_chooseSizes_5 ⟨Nat.le_of_ble_eq_true rfl, Nat.le_of_ble_eq_true rfl⟩ (fun σ_5 H locs hq hw => ?_)
  have hq_5 := hq
  have hσ5 : σ_5 = f_fi σ 14 0 0 36 := hq_5
  have ha5 : f_ag2 σ σ_5 := (fun a b d h1 h2 => by rw [hσ5]; exact if_neg (fun q => h2 q.1))
  refine lv_iconst (v := 0) hx hb dX2_chooseSizes_8 (by decide) ?_
  refine lv_istore_n (lv' := [(1, .int 0), (0, .ref (ad 2 0))]) hx hb dX2_chooseSizes_9 rfl hl (by decide) rfl (fun ls hl => ?_)
  refine lv_iconst (v := 0) hx hb dX2_chooseSizes_10 (by decide) ?_
  refine lv_istore_n (lv' := [(2, .int 0), (1, .int 0), (0, .ref (ad 2 0))]) hx hb dX2_chooseSizes_11 rfl hl (by decide) rfl (fun ls hl => ?_)
  have cut_12 : ∀ (N : Nat) (pl : Nat) (kk : Nat) (f9 : Nat) (tt : Nat → Nat) (x1 : Int32) (x2 : Int32) (σc : x_St), (pl ≤ 36 + 3) → (36 ≤ pl + f9) → (kk < 729) → (x1 = nI pl) → (x2 = nI kk) → (f_ag2 σ σc) → (f_tc σc) → (∀ q, q < 36 → σc 14 0 q = nI (tt q)) → (f_cs (σ 12 0) f9 pl kk tt = f_cs (σ 12 0) 36 0 0 (fun _ => 0)) → (39 - pl < N) → ∀ (H : Heap) (locs : List Loc) (ls : Array Slot), lv_has ls 4 [(0, .ref (ad 2 0)), (1, .int x1), (2, .int x2)] → x_B D cs base ad (x_n nS nB nC nO) (x_s nS nB nC nO nS nC) σc s H locs → W p l e (x_rm 78 0 0) s m ([.ref (ad 2 0)] : List Value).toArray below meth c H locs 0 0 (MQ below (va_Qv (q_X2_chooseSizes σ) (fun σ' => x_U D cs base ad (x_n nS nB nC nO) (x_s nS nB nC nO nS nC) σ') (x_A base)) ([.ref (ad 2 0)] : List Value).toArray s 0 0 (x_A base)) (F0 m 12 ls []) := by
    intro N
    induction N with
    | zero => intro pl kk f9 tt x1 x2 σc hp hf hkk h1 h2 hac htcc ht14 hI hN; exact absurd hN (Nat.not_lt_zero _)
    | succ N ih_12 =>
      intro pl kk f9 tt x1 x2 σc hp hf hkk h1 h2 hac htcc ht14 hI hN H locs ls hl hw
      refine lv_iload_n hx hb dX2_chooseSizes_12 rfl (lv_at hl 1 rfl) ?_
      refine lv_bipush (v := 36) hx hb dX2_chooseSizes_13 (by decide) ?_
      refine lv_icmp_ge (tgt := 62) hx hb dX2_chooseSizes_15 (by decide) (fun c_15 => ?_) (fun c_15 => ?_)
      · exact xr_v hc hlocks hr hw (⟨hac, fun q hq => by have hz := x_ge h1 (b := 36) rfl (by omega) (by decide) c_15; rw [ht14 q hq]; rw [f_cs_end hz] at hI; rw [hI]⟩) (Nat.le_of_ble_eq_true rfl) (Nat.le_of_ble_eq_true rfl) dX2_chooseSizes_62
      · have hpl : pl < 36 := x_nge h1 (b := 36) rfl (by omega) (by decide) c_15
        obtain ⟨f, rfl⟩ : ∃ f, f9 = f + 1 := ⟨f9 - 1, by omega⟩
        rw [f_cs, if_neg (by omega)] at hI
        refine lv_aload_n hx hb dX2_chooseSizes_18 rfl (lv_at hl 0 rfl) ?_
        refine lv_iload_n hx hb dX2_chooseSizes_19 rfl (lv_at hl 1 rfl) ?_
        refine lv_iload_n hx hb dX2_chooseSizes_20 rfl (lv_at hl 2 rfl) ?_
        refine xc_Vi hc hw 2 0 (c_X2_chosenSize pl kk hpl hkk (hgn.up2 hac) (htcc)) rfl rfl (Nat.zero_lt_one) mw_372 mw_369 mw_2 mw_371 mp_5 xd_X2_chosenSize ⟨by simp only [x_rm]; omega, by simp only [x_rm]; omega⟩ (by rw [h1, h2]; rfl) hl.1 (Nat.le_of_ble_eq_true rfl) dX2_chooseSizes_21 ⟨Nat.le_of_ble_eq_true rfl, Nat.le_of_ble_eq_true rfl⟩ (fun r_21 σ_21 H locs hq hw => ?_)
        have hq_21 := hq
        obtain ⟨ha2, hb2, hr2⟩ := hq_21
        rw [hac.g] at hr2
        have hz3 := f_cz_3 (σ 12 0) pl kk
        refine lv_istore_n (lv' := [(3, .int r_21), (0, .ref (ad 2 0)), (1, .int x1), (2, .int x2)]) hx hb dX2_chooseSizes_24 rfl hl (by decide) rfl (fun ls hl => ?_)
        refine lv_aload_n hx hb dX2_chooseSizes_25 rfl (lv_at hl 1 rfl) ?_
        refine xg_r hc hw 2 0 4 rfl rfl rfl rfl (by decide) (Nat.zero_lt_one) (Nat.zero_lt_one) mw_44 dX2_chooseSizes_26 ?_
        refine lv_iload_n hx hb dX2_chooseSizes_29 rfl (lv_at hl 2 rfl) ?_
        refine lv_iload_n hx hb dX2_chooseSizes_30 rfl (lv_at hl 0 rfl) ?_
        refine xa_st hc hw 14 0 pl rfl (Nat.zero_lt_one) (h1) (by show _ < 36; omega) dX2_chooseSizes_31 (fun H locs hw => ?_)
        have e3 := hr2
        have cut_50 : ∀ (x9 : Int32), ((if 0 < f_cz (σ 12 0) pl kk then f_pw (f_cz (σ 12 0) pl kk) pl kk else f_wo pl kk) < 729) → (x9 = nI (if 0 < f_cz (σ 12 0) pl kk then f_pw (f_cz (σ 12 0) pl kk) pl kk else f_wo pl kk)) → ∀ (H : Heap) (locs : List Loc) (ls : Array Slot), lv_has ls 4 [(0, .ref (ad 2 0)), (1, .int x1), (3, .int r_21)] → x_B D cs base ad (x_n nS nB nC nO) (x_s nS nB nC nO nS nC) (x_up σ_21 14 0 pl r_21) s H locs → W p l e (x_rm 78 0 0) s m ([.ref (ad 2 0)] : List Value).toArray below meth c H locs 0 0 (MQ below (va_Qv (q_X2_chooseSizes σ) (fun σ' => x_U D cs base ad (x_n nS nB nC nO) (x_s nS nB nC nO nS nC) σ') (x_A base)) ([.ref (ad 2 0)] : List Value).toArray s 0 0 (x_A base)) (F0 m 50 ls [.int x9]) := by
          intro x9 hk9 h9 H locs ls hl hw
          refine lv_istore_n (lv' := [(2, .int x9), (0, .ref (ad 2 0)), (1, .int x1), (3, .int r_21)]) hx hb dX2_chooseSizes_50 rfl hl (by decide) rfl (fun ls hl => ?_)
          refine lv_iload_n hx hb dX2_chooseSizes_51 rfl (lv_at hl 2 rfl) ?_
          refine lv_iconst (v := 1) hx hb dX2_chooseSizes_52 (by decide) ?_
          refine lv_iload_n hx hb dX2_chooseSizes_53 rfl (lv_at hl 3 rfl) ?_
          refine va_mmax hx hb (hml.trans hl.1.symm) hown (hc.2.2.2.2 _ mw_392) (hc.2.2.2.2 _ mw_393) (hc.2.2.2.2 _ mw_11) (hc.2.2.2.2 _ mw_394) (by decide) (Nat.le_of_ble_eq_true rfl) (by decide) (by decide) dX2_chooseSizes_54 ?_
          refine lv_iadd hx hb dX2_chooseSizes_57 ?_
          refine lv_topi (fun x1_58 ex1_58 => ?_)
          refine lv_istore_n (lv' := [(1, .int x1_58), (2, .int x9), (0, .ref (ad 2 0)), (3, .int r_21)]) hx hb dX2_chooseSizes_58 rfl hl (by decide) rfl (fun ls hl => ?_)
          refine lv_goto (tgt := 12) hx hb dX2_chooseSizes_59 (by decide) ?_
          exact ih_12 (pl + max 1 (f_cz (σ 12 0) pl kk)) (if 0 < f_cz (σ 12 0) pl kk then f_pw (f_cz (σ 12 0) pl kk) pl kk else f_wo pl kk) f (fun q => if q = pl then f_cz (σ 12 0) pl kk else tt q) _ _ _ (by omega) (by omega) (hk9) (by rw [ex1_58, h1, e3, x_mx1 (by omega), nI_add]) (h9) (fun a b d q1 q2 => (x_up_n (fun w => q2 w.1)).trans ((ha2 a b d q1).trans (hac a b d q1 q2))) (f_tc_14 hb2) (fun q hq => by rw [x_up]; by_cases hh : q = pl; (rw [if_pos ⟨rfl, rfl, hh⟩, if_pos hh]; exact e3); rw [if_neg (fun w => hh w.2.2), if_neg hh, ha2 14 0 q (by decide)]; exact ht14 q hq) (hI) (by omega) _ _ _ (lv_sub hl [2, 0, 1] rfl) hw
        refine lv_iload_n hx hb dX2_chooseSizes_32 rfl (lv_at hl 0 rfl) ?_
        refine lv_if_le (tgt := 45) hx hb dX2_chooseSizes_33 (by decide) (fun c_33 => ?_) (fun c_33 => ?_)
        · have hz0 : f_cz (σ 12 0) pl kk = 0 := x_z0 e3 (by omega) c_33
          refine lv_iload_n hx hb dX2_chooseSizes_45 rfl (lv_at hl 2 rfl) ?_
          refine lv_iload_n hx hb dX2_chooseSizes_46 rfl (lv_at hl 3 rfl) ?_
          refine xc_Si hc hw (c_X2_profileWithout pl kk hpl hkk) mw_380 mw_378 mw_2 mw_379 xd_X2_profileWithout ⟨by simp only [x_rm]; omega, by simp only [x_rm]; omega⟩ (by rw [h1, h2]; rfl) hl.1 (Nat.le_of_ble_eq_true rfl) dX2_chooseSizes_47 ⟨Nat.le_of_ble_eq_true rfl, Nat.le_of_ble_eq_true rfl⟩ (fun r_47 σ_47 H locs hq hw => ?_)
          obtain ⟨hσ_47, hr_47⟩ := hq
          rw [hσ_47] at hw
          exact cut_50 _ (by rw [if_neg (by omega)]; exact Nat.lt_of_le_of_lt f_wo_le hkk) (by rw [if_neg (by omega), hr_47]) _ _ _ (lv_sub hl [1, 2, 0] rfl) hw
        · have hzp : 0 < f_cz (σ 12 0) pl kk := x_npos e3 c_33
          have hk2 := f_cz_lt hgn hgb hpl hkk hzp
          refine lv_iload_n hx hb dX2_chooseSizes_36 rfl (lv_at hl 0 rfl) ?_
          refine lv_iload_n hx hb dX2_chooseSizes_37 rfl (lv_at hl 2 rfl) ?_
          refine lv_iload_n hx hb dX2_chooseSizes_38 rfl (lv_at hl 3 rfl) ?_
          refine xc_Si hc hw (c_X2_profileWith (f_cz (σ 12 0) pl kk) pl kk hz3 hzp hpl) mw_389 mw_387 mw_2 mw_388 xd_X2_profileWith ⟨by simp only [x_rm]; omega, by simp only [x_rm]; omega⟩ (by rw [e3, h1, h2]; rfl) hl.1 (Nat.le_of_ble_eq_true rfl) dX2_chooseSizes_39 ⟨Nat.le_of_ble_eq_true rfl, Nat.le_of_ble_eq_true rfl⟩ (fun r_39 σ_39 H locs hq hw => ?_)
          obtain ⟨hσ_39, hr_39⟩ := hq
          rw [hσ_39] at hw
          refine lv_goto (tgt := 50) hx hb dX2_chooseSizes_42 (by decide) ?_
          exact cut_50 _ (by rw [if_pos hzp]; exact hk2) (by rw [if_pos hzp, hr_39]) _ _ _ (lv_sub hl [1, 2, 0] rfl) hw
  exact cut_12 _ 0 0 36 (fun _ => 0) _ _ _ (by decide) (by decide) (by decide) (rfl) (rfl) (ha5) (by rw [hσ5]; exact f_tc_fi htc) (fun q hq => by rw [hσ5]; exact if_pos ⟨rfl, rfl, hq⟩) (rfl) (Nat.lt_succ_self _) _ _ _ (lv_sub hl [2, 1, 0] rfl) hw
