def f_tb (i : Nat) (num : Int32) : Nat → Nat → Nat → x_St → Nat × x_St
  | 0, _, m, σ => (m, σ)
  | f + 1, p, m, σ => if ¬ σ 16 i p ≤ 0 ∧ m < 400 then f_tb i num f (p + 1) (m + 1) (x_up (f_X0_init (x_zr σ 0 m) m (σ 16 i p) (σ 17 i p) (σ 5 i 2) num (nI p)) 6 0 3 (nI (m + 1))) else f_tb i num f (p + 1) m σ
theorem x_buN {nS nB nC nO : Nat} : x_set (x_n nS nB nC nO) 0 (nB + 1) = x_n nS (nB + 1) nC nO := by
  funext k
  simp only [x_set]
  by_cases h1 : k = 0
  · subst h1; rfl
  simp only [h1, if_false]
  unfold x_n
  split <;> simp_all
theorem x_buS {nS nB nC nO : Nat} : x_set (x_s nS nB nC nO nS nC) 21 (nB + 1) = x_s nS (nB + 1) nC nO nS nC := by
  funext k
  simp only [x_set]
  by_cases h1 : k = 21
  · subst h1; rfl
  simp only [h1, if_false]
  unfold x_s
  split <;> simp_all
/-- X6_takeButtons -/
def q_X6_takeButtons (ad : Nat → Nat → Nat) (n : Nat → Nat) : (Nat → Nat → Nat) → Prop := fun ad' => ∀ a b, b < n a → ad' a b = ad a b
set_option maxHeartbeats 4000000 in
set_option maxRecDepth 100000 in
theorem c_X6_takeButtons {l : Launch} {D : va_G} {cs : Nat → ClassId} {base : Nat} {ad : Nat → Nat → Nat} {nS nB nC nO : Nat} {σ : x_St} (i R C : Nat) (num : Int32) (hi : i < nS) (hR : σ 5 i 0 = nI R) (hR0 : R ≤ 6) (hC : σ 5 i 1 = nI C) (hC0 : C ≤ 6) (hB : σ 6 0 3 = nI nB) (hB0 : nB ≤ 400) : x_Cv l yX6_takeButtons cX6_takeButtons 5 2 36 324 D cs base ad (x_n nS nB nC nO) (x_s nS nB nC nO nS nC) σ [.ref (ad 6 0), .ref (ad 5 i), .int num] (q_X6_takeButtons ad (x_n nS nB nC nO)) (fun ad' => x_U D cs base ad' (x_n nS (f_tb i num (R * C) 0 nB σ).1 nC nO) (x_s nS (f_tb i num (R * C) 0 nB σ).1 nC nO nS nC) (f_tb i num (R * C) 0 nB σ).2) := by
  refine Met.ofW (cc := cX6_takeButtons) (maxL := 5) (ret := none) (by decide) rfl ?_
  intro p e s m args below meth c s₁ B hml hv
  obtain ⟨rfl, hU⟩ := hv
  have hx := B.exec
  have hb := B.bytes
  have hr := B.returns
  have hts := atoms_spec (ws := Cond.code yX6_takeButtons cX6_takeButtons 5 (none) :: Tw) B.pre
  have hown : s.vm.findClass RX6 = some m.cls := findClass_of_methodNamed B.named
  have hlocks := B.notSynchronized
  have hc : CallFix p m c cX6_takeButtons 5 s (([.ref (ad 6 0), .ref (ad 5 i), .int num] : List Value).toArray) Tw RX6 := ⟨hx, hb, hml, hown, fun w hw => hts w (List.mem_cons_of_mem _ hw)⟩
  have hw := x_B.start hU
  have hl := lv_entry ([.ref (ad 6 0), .ref (ad 5 i), .int num]) (n := 5) (Nat.le_of_ble_eq_true rfl)
  rw [lg_entry_eq]
  generalize (lg_sl ([.ref (ad 6 0), .ref (ad 5 i), .int num]) ++ List.replicate (5 - (lg_sl ([.ref (ad 6 0), .ref (ad 5 i), .int num])).length) Slot.unset).toArray = ls at hl ⊢
  have hl : lv_has ls 5 [(0, .ref (ad 6 0)), (1, .ref (ad 5 i)), (2, .int num)] := hl
  generalize ([.ref (ad 6 0), .ref (ad 5 i), .int num] : List Value).toArray = args at hc ⊢
  show W p l e (x_rm 2 36 324) s m args below meth c s.heap [] 0 0 (MQ below (va_Qv (q_X6_takeButtons ad (x_n nS nB nC nO)) (fun ad' => x_U D cs base ad' (x_n nS (f_tb i num (R * C) 0 nB σ).1 nC nO) (x_s nS (f_tb i num (R * C) 0 nB σ).1 nC nO nS nC) (f_tb i num (R * C) 0 nB σ).2) (x_A base)) args s 36 324 (x_A base)) (F0 m 0 ls [])
  refine lv_iconst (v := 0) hx hb dX6_takeButtons_0 (by decide) ?_
  refine lv_istore_n (lv' := [(3, .int 0), (0, .ref (ad 6 0)), (1, .ref (ad 5 i)), (2, .int num)]) hx hb dX6_takeButtons_1 rfl hl (by decide) rfl (fun ls hl => ?_)
  have cut_2 : ∀ (N : Nat) (pl : Nat) (mm : Nat) (x3 : Int32) (ad1 : Nat → Nat → Nat) (σc : x_St), (pl ≤ R * C) → (x3 = nI pl) → (mm ≤ 400) → (nB ≤ mm) → (σc 6 0 3 = nI mm) → (σc 5 i 0 = nI R) → (σc 5 i 1 = nI C) → (∀ a b, b < x_n nS nB nC nO a → ad1 a b = ad a b) → (f_tb i num (R * C - pl) pl mm σc = (f_tb i num (R * C) 0 nB σ)) → (R * C - pl < N) → ∀ (H : Heap) (locs : List Loc) (ls : Array Slot), lv_has ls 5 [(0, .ref (ad1 6 0)), (1, .ref (ad1 5 i)), (2, .int num), (3, .int x3)] → x_B D cs base ad1 (x_n nS mm nC nO) (x_s nS mm nC nO nS nC) σc s H locs → W p l e (x_rm 2 36 324) s m args below meth c H locs pl (9 * pl) (MQ below (va_Qv (q_X6_takeButtons ad (x_n nS nB nC nO)) (fun ad' => x_U D cs base ad' (x_n nS (f_tb i num (R * C) 0 nB σ).1 nC nO) (x_s nS (f_tb i num (R * C) 0 nB σ).1 nC nO nS nC) (f_tb i num (R * C) 0 nB σ).2) (x_A base)) args s 36 324 (x_A base)) (F0 m 2 ls []) := by
    intro N
    induction N with
    | zero => intro pl mm x3 ad1 σc hp h3 hm hmB hB1 hR1 hC1 hag0 hI hN; exact absurd hN (Nat.not_lt_zero _)
    | succ N ih_2 =>
      intro pl mm x3 ad1 σc hp h3 hm hmB hB1 hR1 hC1 hag0 hI hN H locs ls hl hw
      have h36 : R * C ≤ 36 := Nat.mul_le_mul hR0 hC0
      have hRC : σc 5 i 0 * σc 5 i 1 = nI (R * C) := (by rw [hR1, hC1, pk_mul])
      refine lv_iload_n hx hb dX6_takeButtons_2 rfl (lv_at hl 3 rfl) ?_
      refine lv_aload_n hx hb dX6_takeButtons_3 rfl (lv_at hl 1 rfl) ?_
      refine xg_i hc hw 5 i 0 rfl rfl rfl rfl (by decide) (hi) mw_135 dX6_takeButtons_4 ?_
      refine lv_aload_n hx hb dX6_takeButtons_7 rfl (lv_at hl 1 rfl) ?_
      refine xg_i hc hw 5 i 1 rfl rfl rfl rfl (by decide) (hi) mw_138 dX6_takeButtons_8 ?_
      refine lv_imul hx hb dX6_takeButtons_11 ?_
      refine lv_icmp_ge (tgt := 84) hx hb dX6_takeButtons_12 (by decide) (fun c_12 => ?_) (fun c_12 => ?_)
      · have hz := x_ge h3 hRC (by omega) (by omega) c_12
        rw [show R * C - pl = 0 by omega, f_tb] at hI
        have hm1 : mm = (f_tb i num (R * C) 0 nB σ).1 := congrArg Prod.fst hI
        have hσ1 : σc = (f_tb i num (R * C) 0 nB σ).2 := congrArg Prod.snd hI
        rw [hm1, hσ1] at hw
        exact xr_v hc hlocks hr hw (fun a b hb => (hag0 a b (hb))) ((by first | exact Nat.le_of_ble_eq_true rfl | (show _ ≤ 36; omega) | (show _ ≤ 324; omega))) ((by first | exact Nat.le_of_ble_eq_true rfl | (show _ ≤ 36; omega) | (show _ ≤ 324; omega))) dX6_takeButtons_84
      · have hpl : pl < R * C := x_nge h3 hRC (by omega) (by omega) c_12
        have hst : R * C - pl = (R * C - (pl + 1)) + 1 := by omega
        rw [hst, f_tb] at hI
        refine lv_aload_n hx hb dX6_takeButtons_15 rfl (lv_at hl 1 rfl) ?_
        refine xg_r hc hw 5 i 5 rfl rfl rfl rfl (by decide) (hi) (hi) mw_146 dX6_takeButtons_16 ?_
        refine lv_iload_n hx hb dX6_takeButtons_19 rfl (lv_at hl 3 rfl) ?_
        refine xa_ld hc hw 16 i pl rfl (hi) (h3) (by show _ < 36; omega) dX6_takeButtons_20 ?_
        refine lv_topi (fun x4_21 ex4_21 => ?_)
        refine lv_istore (lv' := [(4, .int x4_21), (0, .ref (ad1 6 0)), (1, .ref (ad1 5 i)), (2, .int num), (3, .int x3)]) hx hb dX6_takeButtons_21 hl (by decide) rfl (fun ls hl => ?_)
        refine lv_iload hx hb dX6_takeButtons_23 (lv_at hl 0 rfl) ?_
        refine lv_if_le (tgt := 78) hx hb dX6_takeButtons_25 (by decide) (fun c_25 => ?_) (fun c_25 => ?_)
        · try rw [e3, nI_1] at hw
          refine W.widen (k := pl + 1) (n := 9 * (pl + 1)) (by omega) (by omega) ?_
          obtain ⟨x3_78, ex3_78⟩ : ∃ y : Int32, y = x3 + 1 := ⟨_, rfl⟩
          refine lv_iinc (v := x3_78) (lv' := [(3, .int x3_78), (4, .int x4_21), (0, .ref (ad1 6 0)), (1, .ref (ad1 5 i)), (2, .int num)]) hx hb dX6_takeButtons_78 hl (k := 4) rfl (by rw [ex3_78]; rfl) (by decide) rfl (fun ls hl => ?_)
          refine lv_goto (tgt := 2) hx hb dX6_takeButtons_81 (by decide) ?_
          exact ih_2 (pl + 1) _ _ _ _ (by omega) (by rw [ex3_78, h3, nI_1]) (by first | exact hm | exact hm4) (by omega) (by first | exact hB1 | exact x_up_s) (by first | exact hR1 | (simpa [f_X0_init, x_up, x_zr] using hR1)) (by first | exact hC1 | (simpa [f_X0_init, x_up, x_zr] using hC1)) (fun a b hb => (hag0 a b (hb))) (by first | (rw [if_pos ⟨by rw [← ex4_21]; exact c_25, hm4⟩] at hI; exact hI) | (rw [if_neg (fun q => by first | exact q.1 (by rw [← ex4_21]; exact c_25) | exact absurd q.2 (Nat.not_lt.mpr (x_ge hB1 (b := 400) rfl (by omega) (by decide) c_35)))] at hI; exact hI)) (by omega) _ _ _ (lv_sub hl [2, 3, 4, 0] rfl) hw
        · refine lv_aload_n hx hb dX6_takeButtons_28 rfl (lv_at hl 1 rfl) ?_
          refine xg_i hc hw 6 0 3 rfl rfl rfl rfl (by decide) (Nat.zero_lt_one) mw_82 dX6_takeButtons_29 ?_
          refine lv_sipush (v := 400) hx hb dX6_takeButtons_32 (by decide) ?_
          refine lv_icmp_ge (tgt := 78) hx hb dX6_takeButtons_35 (by decide) (fun c_35 => ?_) (fun c_35 => ?_)
          · try rw [e3, nI_1] at hw
            refine W.widen (k := pl + 1) (n := 9 * (pl + 1)) (by omega) (by omega) ?_
            obtain ⟨x3_78, ex3_78⟩ : ∃ y : Int32, y = x3 + 1 := ⟨_, rfl⟩
            refine lv_iinc (v := x3_78) (lv' := [(3, .int x3_78), (4, .int x4_21), (0, .ref (ad1 6 0)), (1, .ref (ad1 5 i)), (2, .int num)]) hx hb dX6_takeButtons_78 hl (k := 4) rfl (by rw [ex3_78]; rfl) (by decide) rfl (fun ls hl => ?_)
            refine lv_goto (tgt := 2) hx hb dX6_takeButtons_81 (by decide) ?_
            exact ih_2 (pl + 1) _ _ _ _ (by omega) (by rw [ex3_78, h3, nI_1]) (by first | exact hm | exact hm4) (by omega) (by first | exact hB1 | exact x_up_s) (by first | exact hR1 | (simpa [f_X0_init, x_up, x_zr] using hR1)) (by first | exact hC1 | (simpa [f_X0_init, x_up, x_zr] using hC1)) (fun a b hb => (hag0 a b (hb))) (by first | (rw [if_pos ⟨by rw [← ex4_21]; exact c_25, hm4⟩] at hI; exact hI) | (rw [if_neg (fun q => by first | exact q.1 (by rw [← ex4_21]; exact c_25) | exact absurd q.2 (Nat.not_lt.mpr (x_ge hB1 (b := 400) rfl (by omega) (by decide) c_35)))] at hI; exact hI)) (by omega) _ _ _ (lv_sub hl [2, 3, 4, 0] rfl) hw
          · have hm4 : mm < 400 := x_nge hB1 (b := 400) rfl (by omega) (by decide) c_35
            refine lv_aload_n hx hb dX6_takeButtons_38 rfl (lv_at hl 1 rfl) ?_
            refine xg_r hc hw 6 0 2 rfl rfl rfl rfl (by decide) (Nat.zero_lt_one) (Nat.zero_lt_one) mw_81 dX6_takeButtons_39 ?_
            refine lv_aload_n hx hb dX6_takeButtons_42 rfl (lv_at hl 1 rfl) ?_
            refine xg_i hc hw 6 0 3 rfl rfl rfl rfl (by decide) (Nat.zero_lt_one) mw_82 dX6_takeButtons_43 ?_
            refine xn_obj hc hw 0 mm rfl rfl rfl (rfl) (Nat.zero_le _) (x_rk (by omega) (fun _ => Nat.le_refl _) (by omega) (by omega) (by omega)) (fun j q hq => by cases hq) mw_26 mw_418 mw_13 ((by first | exact Nat.le_of_ble_eq_true rfl | (show _ ≤ 36; omega) | (show _ ≤ 324; omega))) ((by first | exact Nat.le_of_ble_eq_true rfl | (show _ ≤ 36; omega) | (show _ ≤ 324; omega))) dX6_takeButtons_46 (fun ad_46 H hag_46 hw => ?_)
            have hl : lv_has ls 5 [(4, .int x4_21), (0, .ref (ad_46 6 0)), (1, .ref (ad_46 5 i)), (2, .int num), (3, .int x3)] := by rw [hag_46 6 0 (fun z => absurd z.1 (by decide)), hag_46 5 i (fun z => absurd z.1 (by decide))]; exact hl
            rw [← hag_46 21 0 (fun z => absurd z.1 (by decide))]
            refine lv_dup hx hb dX6_takeButtons_49 rfl ?_
            refine lv_iload hx hb dX6_takeButtons_50 (lv_at hl 0 rfl) ?_
            refine lv_aload_n hx hb dX6_takeButtons_52 rfl (lv_at hl 2 rfl) ?_
            refine xg_r hc hw 5 i 6 rfl rfl rfl rfl (by decide) (hi) (hi) mw_150 dX6_takeButtons_53 ?_
            refine lv_iload_n hx hb dX6_takeButtons_56 rfl (lv_at hl 4 rfl) ?_
            refine xa_ld hc hw 17 i pl rfl (hi) (h3) (by show _ < 36; omega) dX6_takeButtons_57 ?_
            refine lv_aload_n hx hb dX6_takeButtons_58 rfl (lv_at hl 2 rfl) ?_
            refine xg_i hc hw 5 i 2 rfl rfl rfl rfl (by decide) (hi) mw_141 dX6_takeButtons_59 ?_
            refine lv_iload_n hx hb dX6_takeButtons_62 rfl (lv_at hl 3 rfl) ?_
            refine lv_iload_n hx hb dX6_takeButtons_63 rfl (lv_at hl 4 rfl) ?_
            refine xc_Iv hc hw (c_X0_init mm x4_21 ((x_zr σc 0 mm) 17 i pl) ((x_zr σc 0 mm) 5 i 2) num x3 (Nat.lt_succ_self mm)) mw_421 mw_419 mw_13 mw_420 rfl xd_X0_init ⟨by decide, by decide⟩ (rfl) hl.1 ((by first | exact Nat.le_of_ble_eq_true rfl | (show _ ≤ 36; omega) | (show _ ≤ 324; omega))) dX6_takeButtons_64 ⟨(by first | exact Nat.le_of_ble_eq_true rfl | (show _ ≤ 36; omega) | (show _ ≤ 324; omega)), (by first | exact Nat.le_of_ble_eq_true rfl | (show _ ≤ 36; omega) | (show _ ≤ 324; omega))⟩ (fun σ_64 H locs hag_64 hw => ?_)
            have hq_64 := hag_64
            replace hq_64 : _ = _ := hq_64
            rw [hq_64] at hw
            have hjs_67 : mm = (x_s nS mm nC nO nS nC) 21 := by first | rfl | exact rfl
            refine xa_rst (st' := x_set (x_s nS mm nC nO nS nC) 21 (mm + 1)) hc hw 21 0 rfl (Nat.zero_lt_one) (rfl) (hB1) hjs_67 (hm4) (Nat.lt_succ_self mm) (fun a => by rw [← hjs_67]; rfl) dX6_takeButtons_67 (fun H locs hw => ?_)
            rw [x_buN, x_buS] at hw
            have e1 : x_zr σc 0 mm 17 i pl = σc 17 i pl := (by simp [x_zr])
            have e2 : x_zr σc 0 mm 5 i 2 = σc 5 i 2 := (by simp [x_zr])
            rw [e1, e2, ex4_21, h3] at hw
            have e3 : f_X0_init (x_zr σc 0 mm) mm (σc 16 i pl) (σc 17 i pl) (σc 5 i 2) num (nI pl) 6 0 3 = nI mm := (by simpa [f_X0_init, x_up, x_zr] using hB1)
            refine lv_aload_n hx hb dX6_takeButtons_68 rfl (lv_at hl 1 rfl) ?_
            refine lv_dup hx hb dX6_takeButtons_69 rfl ?_
            refine xg_i hc hw 6 0 3 rfl rfl rfl rfl (by decide) (Nat.zero_lt_one) mw_82 dX6_takeButtons_70 ?_
            refine lv_iconst (v := 1) hx hb dX6_takeButtons_73 (by decide) ?_
            refine lv_iadd hx hb dX6_takeButtons_74 ?_
            refine xp_i hc hw 6 0 3 rfl rfl rfl rfl (by decide) (Nat.zero_lt_one) rfl (ty := .int) (by decide +kernel) rfl rfl mw_82 dX6_takeButtons_75 (fun H locs hw => ?_)
            try rw [e3, nI_1] at hw
            refine W.widen (k := pl + 1) (n := 9 * (pl + 1)) (by omega) (by omega) ?_
            obtain ⟨x3_78, ex3_78⟩ : ∃ y : Int32, y = x3 + 1 := ⟨_, rfl⟩
            refine lv_iinc (v := x3_78) (lv' := [(3, .int x3_78), (4, .int x4_21), (0, .ref (ad_46 6 0)), (1, .ref (ad_46 5 i)), (2, .int num)]) hx hb dX6_takeButtons_78 hl (k := 4) rfl (by rw [ex3_78]; rfl) (by decide) rfl (fun ls hl => ?_)
            refine lv_goto (tgt := 2) hx hb dX6_takeButtons_81 (by decide) ?_
            exact ih_2 (pl + 1) _ _ _ _ (by omega) (by rw [ex3_78, h3, nI_1]) (by first | exact hm | exact hm4) (by omega) (by first | exact hB1 | exact x_up_s) (by first | exact hR1 | (simpa [f_X0_init, x_up, x_zr] using hR1)) (by first | exact hC1 | (simpa [f_X0_init, x_up, x_zr] using hC1)) (fun a b hb => (Eq.trans (x_ag hag_46 (hmB) hb) (hag0 a b (hb)))) (by first | (rw [if_pos ⟨by rw [← ex4_21]; exact c_25, hm4⟩] at hI; exact hI) | (rw [if_neg (fun q => by first | exact q.1 (by rw [← ex4_21]; exact c_25) | exact absurd q.2 (Nat.not_lt.mpr (x_ge hB1 (b := 400) rfl (by omega) (by decide) c_35)))] at hI; exact hI)) (by omega) _ _ _ (lv_sub hl [2, 3, 4, 0] rfl) hw
  exact cut_2 _ 0 _ _ _ _ (Nat.zero_le _) (rfl) (hB0) (Nat.le_refl _) (hB) (hR) (hC) (fun _ _ _ => rfl) (rfl) (Nat.lt_succ_self _) _ _ _ (lv_sub hl [1, 2, 3, 0] rfl) hw
