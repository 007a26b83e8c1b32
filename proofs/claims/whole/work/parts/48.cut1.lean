def f_G (σ : x_St) (i y x : Nat) : Int32 := σ 15 i (6 * y + x)
def f_pw (z pl k : Nat) : Nat := k + (z - 1) * ((3 ^ z - 1) / 2) * 3 ^ (pl % 6)
def f_wo (pl k : Nat) : Nat := if 0 < k / 3 ^ (pl % 6) % 3 then k - 3 ^ (pl % 6) else k
theorem x_pow3 {j : Nat} (h : j ≤ 6) : x_pow j = nI (3 ^ j) := by
  match j, h with
  | 0, _ => rfl
  | 1, _ => rfl
  | 2, _ => rfl
  | 3, _ => rfl
  | 4, _ => rfl
  | 5, _ => rfl
  | 6, _ => rfl
theorem x_onc {j : Nat} (h : j ≤ 3) : x_once j = nI ((3 ^ j - 1) / 2) := by
  match j, h with
  | 0, _ => rfl
  | 1, _ => rfl
  | 2, _ => rfl
  | 3, _ => rfl
theorem f_wo_le {pl k : Nat} : f_wo pl k ≤ k := by
  rw [f_wo]
  split
  · exact Nat.sub_le _ _
  · exact Nat.le_refl _
theorem x_wo1 {pl k : Nat} {x : Int32} (h2 : x = nI (3 ^ (pl % 6))) (hq : nI k / x = nI (k / 3 ^ (pl % 6))) (hq3 : nI (k / 3 ^ (pl % 6)) - nI (k / 3 ^ (pl % 6)) / 3 * 3 = nI (k / 3 ^ (pl % 6) % 3)) (h : ¬ nI k / x - nI k / x / 3 * 3 ≤ 0) : nI k - x = nI (f_wo pl k) := by
  rw [hq, hq3] at h
  have h1 : 0 < k / 3 ^ (pl % 6) % 3 := x_npos rfl h
  rw [f_wo, if_pos h1, h2]
  refine pk_sub ?_
  rcases Nat.lt_or_ge k (3 ^ (pl % 6)) with q | q
  · rw [Nat.div_eq_of_lt q] at h1; exact absurd h1 (by decide)
  · exact q
theorem x_wo0 {pl k : Nat} {x : Int32} (h2 : x = nI (3 ^ (pl % 6))) (hq : nI k / x = nI (k / 3 ^ (pl % 6))) (hq3 : nI (k / 3 ^ (pl % 6)) - nI (k / 3 ^ (pl % 6)) / 3 * 3 = nI (k / 3 ^ (pl % 6) % 3)) (h : nI k / x - nI k / x / 3 * 3 ≤ 0) : nI k = nI (f_wo pl k) := by
  rw [hq, hq3] at h
  have h1 := x_z0 rfl (by have := Nat.mod_lt (k / 3 ^ (pl % 6)) (show 0 < 3 by decide); omega) h
  rw [f_wo, if_neg (by omega)]

/-- X5_blankThickness -/
def q_X5_blankThickness (σ : x_St) (i pl z : Nat) : Int32 → x_St → Prop := fun r σ' => σ' = σ ∧ r = m_th (f_G σ i) 6 6 pl z
set_option maxHeartbeats 4000000 in
set_option maxRecDepth 100000 in
theorem c_X5_blankThickness {l : Launch} {D : va_G} {cs : Nat → ClassId} {base : Nat} {ad : Nat → Nat → Nat} {nS nB nC nO : Nat} {σ : x_St} (i pl z : Nat) (hi : i < nS) (hpl : pl < 36) (hz : z ≤ 3) : x_Ci l yX5_blankThickness cX5_blankThickness 8 (some .int) 1 0 0 D cs base ad (x_n nS nB nC nO) (x_s nS nB nC nO nS nC) σ [.ref (ad 5 i), .int (nI pl), .int (nI z)] (q_X5_blankThickness σ i pl z) (fun σ' => x_U D cs base ad (x_n nS nB nC nO) (x_s nS nB nC nO nS nC) σ') := by
  refine Met.ofW (cc := cX5_blankThickness) (maxL := 8) (ret := some .int) (by decide) rfl ?_
  intro p e s m args below meth c s₁ B hml hv
  obtain ⟨rfl, hU⟩ := hv
  have hx := B.exec
  have hb := B.bytes
  have hr := B.returns
  have hts := atoms_spec (ws := Cond.code yX5_blankThickness cX5_blankThickness 8 (some .int) :: Tw) B.pre
  have hown : s.vm.findClass RX5 = some m.cls := findClass_of_methodNamed B.named
  have hlocks := B.notSynchronized
  have hc : CallFix p m c cX5_blankThickness 8 s (([.ref (ad 5 i), .int (nI pl), .int (nI z)] : List Value).toArray) Tw RX5 := ⟨hx, hb, hml, hown, fun w hw => hts w (List.mem_cons_of_mem _ hw)⟩
  have hw := x_B.start hU
  have hl := lv_entry ([.ref (ad 5 i), .int (nI pl), .int (nI z)]) (n := 8) (Nat.le_of_ble_eq_true rfl)
  rw [lg_entry_eq]
  generalize (lg_sl ([.ref (ad 5 i), .int (nI pl), .int (nI z)]) ++ List.replicate (8 - (lg_sl ([.ref (ad 5 i), .int (nI pl), .int (nI z)])).length) Slot.unset).toArray = ls at hl ⊢
  have hl : lv_has ls 8 [(0, .ref (ad 5 i)), (1, .int (nI pl)), (2, .int (nI z))] := hl
  show W p l e (x_rm 1 0 0) s m ([.ref (ad 5 i), .int (nI pl), .int (nI z)] : List Value).toArray below meth c s.heap [] 0 0 (MQ below (va_Qi (q_X5_blankThickness σ i pl z) (fun σ' => x_U D cs base ad (x_n nS nB nC nO) (x_s nS nB nC nO nS nC) σ') (x_A base)) ([.ref (ad 5 i), .int (nI pl), .int (nI z)] : List Value).toArray s 0 0 (x_A base)) (F0 m 0 ls [])
  refine lv_iload_n hx hb dX5_blankThickness_0 rfl (lv_at hl 1 rfl) ?_
  refine lv_bipush (v := 6) hx hb dX5_blankThickness_1 (by decide) ?_
  refine lv_idiv hx hb dX5_blankThickness_3 (by decide) ?_
  refine lv_topi (fun x3_4 ex3_4 => ?_)
  refine lv_istore_n (lv' := [(3, .int x3_4), (0, .ref (ad 5 i)), (1, .int (nI pl)), (2, .int (nI z))]) hx hb dX5_blankThickness_4 rfl hl (by decide) rfl (fun ls hl => ?_)
  have h3 : x3_4 = nI (pl / 6) := (by rw [ex3_4]; exact pk_div (d := 6) (by omega) (by omega) (by omega))
  refine lv_iload_n hx hb dX5_blankThickness_5 rfl (lv_at hl 2 rfl) ?_
  refine lv_bipush (v := 6) hx hb dX5_blankThickness_6 (by decide) ?_
  refine lv_irem hx hb dX5_blankThickness_8 (by decide) ?_
  refine lv_topi (fun x4_9 ex4_9 => ?_)
  refine lv_istore (lv' := [(4, .int x4_9), (3, .int x3_4), (0, .ref (ad 5 i)), (1, .int (nI pl)), (2, .int (nI z))]) hx hb dX5_blankThickness_9 hl (by decide) rfl (fun ls hl => ?_)
  have h4 : x4_9 = nI (pl % 6) := (by rw [ex4_9]; exact pk_rem (d := 6) (by omega) (by omega) (by omega))
  have h3z : x3_4 + nI z = nI (pl / 6 + z) := (by rw [h3, nI_add])
  have h4z : x4_9 + nI z = nI (pl % 6 + z) := (by rw [h4, nI_add])
  have h6c : (6 : Int32) = nI 6 := rfl
  have cut_28 : (6 < pl / 6 + z ∨ 6 < pl % 6 + z) → ∀ (H : Heap) (locs : List Loc) (ls : Array Slot), lv_has ls 8 [(0, .ref (ad 5 i)), (1, .int (nI pl)), (2, .int (nI z)), (3, .int x3_4), (4, .int x4_9)] → x_B D cs base ad (x_n nS nB nC nO) (x_s nS nB nC nO nS nC) σ s H locs → W p l e (x_rm 1 0 0) s m ([.ref (ad 5 i), .int (nI pl), .int (nI z)] : List Value).toArray below meth c H locs 0 0 (MQ below (va_Qi (q_X5_blankThickness σ i pl z) (fun σ' => x_U D cs base ad (x_n nS nB nC nO) (x_s nS nB nC nO nS nC) σ') (x_A base)) ([.ref (ad 5 i), .int (nI pl), .int (nI z)] : List Value).toArray s 0 0 (x_A base)) (F0 m 28 ls []) := by
    intro  hbad H locs ls hl hw
    refine lv_iconst (v := 0) hx hb dX5_blankThickness_28 (by decide) ?_
    exact xr_i hc hlocks hr rfl hw (⟨rfl, by rw [m_th, if_pos hbad]⟩) (Nat.le_of_ble_eq_true rfl) (Nat.le_of_ble_eq_true rfl) dX5_blankThickness_29
  refine lv_iload_n hx hb dX5_blankThickness_11 rfl (lv_at hl 1 rfl) ?_
  refine lv_iload_n hx hb dX5_blankThickness_12 rfl (lv_at hl 4 rfl) ?_
  refine lv_iadd hx hb dX5_blankThickness_13 ?_
  refine lv_bipush (v := 6) hx hb dX5_blankThickness_14 (by decide) ?_
  refine lv_icmp_gt (tgt := 28) hx hb dX5_blankThickness_16 (by decide) (fun c_16 => ?_) (fun c_16 => ?_)
  · exact cut_28 (Or.inl (x_gt2 h3z h6c (by omega) (by omega) c_16)) _ _ _ (lv_sub hl [2, 3, 4, 1, 0] rfl) hw
  · refine lv_iload hx hb dX5_blankThickness_19 (lv_at hl 0 rfl) ?_
    refine lv_iload_n hx hb dX5_blankThickness_21 rfl (lv_at hl 4 rfl) ?_
    refine lv_iadd hx hb dX5_blankThickness_22 ?_
    refine lv_bipush (v := 6) hx hb dX5_blankThickness_23 (by decide) ?_
    refine lv_icmp_le (tgt := 30) hx hb dX5_blankThickness_25 (by decide) (fun c_25 => ?_) (fun c_25 => ?_)
    · have hf1 : pl / 6 + z ≤ 6 := x_ngt h3z h6c (by omega) (by omega) c_16
      have hf2 : pl % 6 + z ≤ 6 := x_le2 h4z h6c (by omega) (by omega) c_25
      refine lv_bipush (v := 9) hx hb dX5_blankThickness_30 (by decide) ?_
      refine lv_istore (lv' := [(5, .int 9), (4, .int x4_9), (3, .int x3_4), (0, .ref (ad 5 i)), (1, .int (nI pl)), (2, .int (nI z))]) hx hb dX5_blankThickness_32 hl (by decide) rfl (fun ls hl => ?_)
      refine lv_iload_n hx hb dX5_blankThickness_34 rfl (lv_at hl 2 rfl) ?_
      refine lv_istore (lv' := [(6, .int x3_4), (5, .int 9), (4, .int x4_9), (3, .int x3_4), (0, .ref (ad 5 i)), (1, .int (nI pl)), (2, .int (nI z))]) hx hb dX5_blankThickness_35 hl (by decide) rfl (fun ls hl => ?_)
      have cut_37 : ∀ (N : Nat) (y : Nat) (x5 : Int32) (x6 : Int32), (pl / 6 ≤ y ∧ y ≤ pl / 6 + z) → (x6 = nI y) → (th_out (f_G σ i) (pl % 6) z (pl / 6 + z - y) y x5 = th_out (f_G σ i) (pl % 6) z z (pl / 6) 9) → (pl / 6 + z - y < N) → ∀ (H : Heap) (locs : List Loc) (ls : Array Slot), lv_has ls 8 [(0, .ref (ad 5 i)), (1, .int (nI pl)), (2, .int (nI z)), (3, .int x3_4), (4, .int x4_9), (5, .int x5), (6, .int x6)] → x_B D cs base ad (x_n nS nB nC nO) (x_s nS nB nC nO nS nC) σ s H locs → W p l e (x_rm 1 0 0) s m ([.ref (ad 5 i), .int (nI pl), .int (nI z)] : List Value).toArray below meth c H locs 0 0 (MQ below (va_Qi (q_X5_blankThickness σ i pl z) (fun σ' => x_U D cs base ad (x_n nS nB nC nO) (x_s nS nB nC nO nS nC) σ') (x_A base)) ([.ref (ad 5 i), .int (nI pl), .int (nI z)] : List Value).toArray s 0 0 (x_A base)) (F0 m 37 ls []) := by
        intro N
        induction N with
        | zero => intro y x5 x6 hy h6y hI hN; exact absurd hN (Nat.not_lt_zero _)
        | succ N ih_37 =>
          intro y x5 x6 hy h6y hI hN H locs ls hl hw
          refine lv_iload hx hb dX5_blankThickness_37 (lv_at hl 6 rfl) ?_
          refine lv_iload_n hx hb dX5_blankThickness_39 rfl (lv_at hl 3 rfl) ?_
          refine lv_iload_n hx hb dX5_blankThickness_40 rfl (lv_at hl 2 rfl) ?_
          refine lv_iadd hx hb dX5_blankThickness_41 ?_
          refine lv_icmp_ge (tgt := 90) hx hb dX5_blankThickness_42 (by decide) (fun c_42 => ?_) (fun c_42 => ?_)
          · refine lv_iload hx hb dX5_blankThickness_90 (lv_at hl 5 rfl) ?_
            exact xr_i hc hlocks hr rfl hw (⟨rfl, by have hzz := x_ge h6y h3z (by omega) (by omega) c_42; rw [show pl / 6 + z - y = 0 by omega, th_out] at hI; rw [m_th, if_neg (by omega), ← hI]⟩) (Nat.le_of_ble_eq_true rfl) (Nat.le_of_ble_eq_true rfl) dX5_blankThickness_92
          · have hyl : y < pl / 6 + z := x_nge h6y h3z (by omega) (by omega) c_42
            have hst : pl / 6 + z - y = (pl / 6 + z - (y + 1)) + 1 := by omega
            rw [hst, th_out] at hI
            refine lv_iload hx hb dX5_blankThickness_45 (lv_at hl 4 rfl) ?_
            refine lv_istore (lv' := [(7, .int x4_9), (0, .ref (ad 5 i)), (1, .int (nI pl)), (2, .int (nI z)), (3, .int x3_4), (4, .int x4_9), (5, .int x5), (6, .int x6)]) hx hb dX5_blankThickness_47 hl (by decide) rfl (fun ls hl => ?_)
            have cut_49 : ∀ (N : Nat) (x : Nat) (y5 : Int32) (x7 : Int32), (pl % 6 ≤ x ∧ x ≤ pl % 6 + z) → (x7 = nI x) → (th_in ((f_G σ i) y) (pl % 6 + z - x) x y5 = th_in ((f_G σ i) y) z (pl % 6) x5) → (pl % 6 + z - x < N) → ∀ (H : Heap) (locs : List Loc) (ls : Array Slot), lv_has ls 8 [(0, .ref (ad 5 i)), (1, .int (nI pl)), (2, .int (nI z)), (3, .int x3_4), (4, .int x4_9), (5, .int y5), (6, .int x6), (7, .int x7)] → x_B D cs base ad (x_n nS nB nC nO) (x_s nS nB nC nO nS nC) σ s H locs → W p l e (x_rm 1 0 0) s m ([.ref (ad 5 i), .int (nI pl), .int (nI z)] : List Value).toArray below meth c H locs 0 0 (MQ below (va_Qi (q_X5_blankThickness σ i pl z) (fun σ' => x_U D cs base ad (x_n nS nB nC nO) (x_s nS nB nC nO nS nC) σ') (x_A base)) ([.ref (ad 5 i), .int (nI pl), .int (nI z)] : List Value).toArray s 0 0 (x_A base)) (F0 m 49 ls []) := by
              intro N
              induction N with
              | zero => intro x y5 x7 hx9 h7x hJ hN; exact absurd hN (Nat.not_lt_zero _)
              | succ N ih_49 =>
                intro x y5 x7 hx9 h7x hJ hN H locs ls hl hw
                refine lv_iload hx hb dX5_blankThickness_49 (lv_at hl 7 rfl) ?_
                refine lv_iload hx hb dX5_blankThickness_51 (lv_at hl 4 rfl) ?_
                refine lv_iload_n hx hb dX5_blankThickness_53 rfl (lv_at hl 2 rfl) ?_
                refine lv_iadd hx hb dX5_blankThickness_54 ?_
                refine lv_icmp_ge (tgt := 84) hx hb dX5_blankThickness_55 (by decide) (fun c_55 => ?_) (fun c_55 => ?_)
                · obtain ⟨x6_84, ex6_84⟩ : ∃ y : Int32, y = x6 + 1 := ⟨_, rfl⟩
                  refine lv_iinc (v := x6_84) (lv' := [(6, .int x6_84), (0, .ref (ad 5 i)), (1, .int (nI pl)), (2, .int (nI z)), (3, .int x3_4), (4, .int x4_9), (5, .int y5), (7, .int x7)]) hx hb dX5_blankThickness_84 hl (k := 6) rfl (by rw [ex6_84]; rfl) (by decide) rfl (fun ls hl => ?_)
                  refine lv_goto (tgt := 37) hx hb dX5_blankThickness_87 (by decide) ?_
                  exact ih_37 (y + 1) _ _ (⟨by omega, by omega⟩) (by rw [ex6_84, h6y, nI_1]) (by have hzz := x_ge h7x h4z (by omega) (by omega) c_55; rw [show pl % 6 + z - x = 0 by omega, th_in] at hJ; rw [← hJ] at hI; exact hI) (by omega) _ _ _ (lv_sub hl [1, 2, 3, 4, 5, 6, 0] rfl) hw
                · have hxl : x < pl % 6 + z := x_nge h7x h4z (by omega) (by omega) c_55
                  have hst2 : pl % 6 + z - x = (pl % 6 + z - (x + 1)) + 1 := by omega
                  rw [hst2, th_in] at hJ
                  refine lv_iload hx hb dX5_blankThickness_58 (lv_at hl 5 rfl) ?_
                  refine lv_aload_n hx hb dX5_blankThickness_60 rfl (lv_at hl 0 rfl) ?_
                  refine xg_r hc hw 5 i 3 rfl rfl rfl rfl (by decide) (hi) (hi) mw_142 dX5_blankThickness_61 ?_
                  refine lv_iload hx hb dX5_blankThickness_64 (lv_at hl 6 rfl) ?_
                  refine lv_bipush (v := 6) hx hb dX5_blankThickness_66 (by decide) ?_
                  refine lv_imul hx hb dX5_blankThickness_68 ?_
                  refine lv_iload hx hb dX5_blankThickness_69 (lv_at hl 7 rfl) ?_
                  refine lv_iadd hx hb dX5_blankThickness_71 ?_
                  refine xa_ld hc hw 15 i (6 * y + x) rfl (hi) (by rw [h6y, h7x]; exact x_6c) (by show _ < 36; omega) dX5_blankThickness_72 ?_
                  refine va_mmin hx hb (hml.trans hl.1.symm) hown (hc.2.2.2.2 _ mw_359) (hc.2.2.2.2 _ mw_360) (hc.2.2.2.2 _ mw_11) (hc.2.2.2.2 _ mw_361) (by decide) (Nat.le_of_ble_eq_true rfl) (by decide) (by decide) dX5_blankThickness_73 ?_
                  refine lv_topi (fun x5_76 ex5_76 => ?_)
                  refine lv_istore (lv' := [(5, .int x5_76), (0, .ref (ad 5 i)), (1, .int (nI pl)), (2, .int (nI z)), (3, .int x3_4), (4, .int x4_9), (6, .int x6), (7, .int x7)]) hx hb dX5_blankThickness_76 hl (by decide) rfl (fun ls hl => ?_)
                  obtain ⟨x7_78, ex7_78⟩ : ∃ y : Int32, y = x7 + 1 := ⟨_, rfl⟩
                  refine lv_iinc (v := x7_78) (lv' := [(7, .int x7_78), (5, .int x5_76), (0, .ref (ad 5 i)), (1, .int (nI pl)), (2, .int (nI z)), (3, .int x3_4), (4, .int x4_9), (6, .int x6)]) hx hb dX5_blankThickness_78 hl (k := 7) rfl (by rw [ex7_78]; rfl) (by decide) rfl (fun ls hl => ?_)
                  refine lv_goto (tgt := 49) hx hb dX5_blankThickness_81 (by decide) ?_
                  exact ih_49 (x + 1) _ _ (⟨by omega, by omega⟩) (by rw [ex7_78, h7x, nI_1]) (by rw [ex5_76]; exact hJ) (by omega) _ _ _ (lv_sub hl [2, 3, 4, 5, 6, 1, 7, 0] rfl) hw
            exact cut_49 _ (pl % 6) _ _ (⟨Nat.le_refl _, Nat.le_add_right _ _⟩) (h4) (by rw [Nat.add_sub_cancel_left]) (Nat.lt_succ_self _) _ _ _ (lv_sub hl [1, 2, 3, 4, 5, 6, 7, 0] rfl) hw
      exact cut_37 _ (pl / 6) _ _ (⟨Nat.le_refl _, Nat.le_add_right _ _⟩) (h3) (by rw [Nat.add_sub_cancel_left]) (Nat.lt_succ_self _) _ _ _ (lv_sub hl [4, 5, 6, 3, 2, 1, 0] rfl) hw
    · exact cut_28 (Or.inr (x_nle2 h4z h6c (by omega) (by omega) c_25)) _ _ _ (lv_sub hl [2, 3, 4, 1, 0] rfl) hw
/-- X2_profileWith -/
def q_X2_profileWith (σ : x_St) (z pl kk : Nat) : Int32 → x_St → Prop := fun r σ' => σ' = σ ∧ r = nI (f_pw z pl kk)
set_option maxHeartbeats 4000000 in
set_option maxRecDepth 100000 in
theorem c_X2_profileWith {l : Launch} {D : va_G} {cs : Nat → ClassId} {base : Nat} {ad : Nat → Nat → Nat} {nS nB nC nO : Nat} {σ : x_St} (z pl kk : Nat) (hz : z ≤ 3) (hz1 : 1 ≤ z) (hpl : pl < 36) : x_Ci l yX2_profileWith cX2_profileWith 3 (some .int) 1 0 0 D cs base ad (x_n nS nB nC nO) (x_s nS nB nC nO nS nC) σ [.int (nI z), .int (nI pl), .int (nI kk)] (q_X2_profileWith σ z pl kk) (fun σ' => x_U D cs base ad (x_n nS nB nC nO) (x_s nS nB nC nO nS nC) σ') := by
  refine Met.ofW (cc := cX2_profileWith) (maxL := 3) (ret := some .int) (by decide) rfl ?_
  intro p e s m args below meth c s₁ B hml hv
  obtain ⟨rfl, hU⟩ := hv
  have hx := B.exec
  have hb := B.bytes
  have hr := B.returns
  have hts := atoms_spec (ws := Cond.code yX2_profileWith cX2_profileWith 3 (some .int) :: Tw) B.pre
  have hown : s.vm.findClass RX2 = some m.cls := findClass_of_methodNamed B.named
  have hlocks := B.notSynchronized
  have hc : CallFix p m c cX2_profileWith 3 s (([.int (nI z), .int (nI pl), .int (nI kk)] : List Value).toArray) Tw RX2 := ⟨hx, hb, hml, hown, fun w hw => hts w (List.mem_cons_of_mem _ hw)⟩
  have hw := x_B.start hU
  have hl := lv_entry ([.int (nI z), .int (nI pl), .int (nI kk)]) (n := 3) (Nat.le_of_ble_eq_true rfl)
  rw [lg_entry_eq]
  generalize (lg_sl ([.int (nI z), .int (nI pl), .int (nI kk)]) ++ List.replicate (3 - (lg_sl ([.int (nI z), .int (nI pl), .int (nI kk)])).length) Slot.unset).toArray = ls at hl ⊢
  have hl : lv_has ls 3 [(0, .int (nI z)), (1, .int (nI pl)), (2, .int (nI kk))] := hl
  show W p l e (x_rm 1 0 0) s m ([.int (nI z), .int (nI pl), .int (nI kk)] : List Value).toArray below meth c s.heap [] 0 0 (MQ below (va_Qi (q_X2_profileWith σ z pl kk) (fun σ' => x_U D cs base ad (x_n nS nB nC nO) (x_s nS nB nC nO nS nC) σ') (x_A base)) ([.int (nI z), .int (nI pl), .int (nI kk)] : List Value).toArray s 0 0 (x_A base)) (F0 m 0 ls [])
  refine lv_iload_n hx hb dX2_profileWith_0 rfl (lv_at hl 2 rfl) ?_
  refine lv_iload_n hx hb dX2_profileWith_1 rfl (lv_at hl 0 rfl) ?_
  refine lv_iconst (v := 1) hx hb dX2_profileWith_2 (by decide) ?_
  refine lv_isub hx hb dX2_profileWith_3 ?_
  refine xs_once hc hw mw_390 dX2_profileWith_4 (fun aP4 hX_aP4 hX2_aP4 => ?_)
  refine lv_iload_n hx hb dX2_profileWith_7 rfl (lv_at hl 0 rfl) ?_
  refine xs_td (j := z) hc hw hX_aP4 hX2_aP4 (rfl) (by omega) (by decide) dX2_profileWith_8 ?_
  refine lv_imul hx hb dX2_profileWith_9 ?_
  refine xs_pow hc hw mw_381 dX2_profileWith_10 (fun aP10 hX_aP10 hX2_aP10 => ?_)
  refine lv_iload_n hx hb dX2_profileWith_13 rfl (lv_at hl 1 rfl) ?_
  refine lv_bipush (v := 6) hx hb dX2_profileWith_14 (by decide) ?_
  refine lv_irem hx hb dX2_profileWith_16 (by decide) ?_
  refine xs_td (j := pl % 6) hc hw hX_aP10 hX2_aP10 (pk_rem (d := 6) (by omega) (by omega) (by omega)) (by omega) (by decide) dX2_profileWith_17 ?_
  refine lv_imul hx hb dX2_profileWith_18 ?_
  refine lv_iadd hx hb dX2_profileWith_19 ?_
  exact xr_i hc hlocks hr rfl hw (⟨rfl, by rw [x_pow3 (by omega), x_onc hz, f_pw]; obtain ⟨y, rfl⟩ : ∃ y, z = y + 1 := ⟨z - 1, by omega⟩; rw [nI_pred, pk_mul, pk_mul, nI_add, Nat.add_sub_cancel]⟩) (Nat.le_of_ble_eq_true rfl) (Nat.le_of_ble_eq_true rfl) dX2_profileWith_20
/-- X2_profileWithout -/
def q_X2_profileWithout (σ : x_St) (pl kk : Nat) : Int32 → x_St → Prop := fun r σ' => σ' = σ ∧ r = nI (f_wo pl kk)
set_option maxHeartbeats 4000000 in
set_option maxRecDepth 100000 in
theorem c_X2_profileWithout {l : Launch} {D : va_G} {cs : Nat → ClassId} {base : Nat} {ad : Nat → Nat → Nat} {nS nB nC nO : Nat} {σ : x_St} (pl kk : Nat) (hpl : pl < 36) (hk : kk < 729) : x_Ci l yX2_profileWithout cX2_profileWithout 3 (some .int) 1 0 0 D cs base ad (x_n nS nB nC nO) (x_s nS nB nC nO nS nC) σ [.int (nI pl), .int (nI kk)] (q_X2_profileWithout σ pl kk) (fun σ' => x_U D cs base ad (x_n nS nB nC nO) (x_s nS nB nC nO nS nC) σ') := by
  refine Met.ofW (cc := cX2_profileWithout) (maxL := 3) (ret := some .int) (by decide) rfl ?_
  intro p e s m args below meth c s₁ B hml hv
  obtain ⟨rfl, hU⟩ := hv
  have hx := B.exec
  have hb := B.bytes
  have hr := B.returns
  have hts := atoms_spec (ws := Cond.code yX2_profileWithout cX2_profileWithout 3 (some .int) :: Tw) B.pre
  have hown : s.vm.findClass RX2 = some m.cls := findClass_of_methodNamed B.named
  have hlocks := B.notSynchronized
  have hc : CallFix p m c cX2_profileWithout 3 s (([.int (nI pl), .int (nI kk)] : List Value).toArray) Tw RX2 := ⟨hx, hb, hml, hown, fun w hw => hts w (List.mem_cons_of_mem _ hw)⟩
  have hw := x_B.start hU
  have hl := lv_entry ([.int (nI pl), .int (nI kk)]) (n := 3) (Nat.le_of_ble_eq_true rfl)
  rw [lg_entry_eq]
  generalize (lg_sl ([.int (nI pl), .int (nI kk)]) ++ List.replicate (3 - (lg_sl ([.int (nI pl), .int (nI kk)])).length) Slot.unset).toArray = ls at hl ⊢
  have hl : lv_has ls 3 [(0, .int (nI pl)), (1, .int (nI kk))] := hl
  show W p l e (x_rm 1 0 0) s m ([.int (nI pl), .int (nI kk)] : List Value).toArray below meth c s.heap [] 0 0 (MQ below (va_Qi (q_X2_profileWithout σ pl kk) (fun σ' => x_U D cs base ad (x_n nS nB nC nO) (x_s nS nB nC nO nS nC) σ') (x_A base)) ([.int (nI pl), .int (nI kk)] : List Value).toArray s 0 0 (x_A base)) (F0 m 0 ls [])
  refine xs_pow hc hw mw_381 dX2_profileWithout_0 (fun aP0 hX_aP0 hX2_aP0 => ?_)
  refine lv_iload_n hx hb dX2_profileWithout_3 rfl (lv_at hl 0 rfl) ?_
  refine lv_bipush (v := 6) hx hb dX2_profileWithout_4 (by decide) ?_
  refine lv_irem hx hb dX2_profileWithout_6 (by decide) ?_
  refine xs_td (j := pl % 6) hc hw hX_aP0 hX2_aP0 (pk_rem (d := 6) (by omega) (by omega) (by omega)) (by omega) (by decide) dX2_profileWithout_7 ?_
  refine lv_topi (fun x2_8 ex2_8 => ?_)
  refine lv_istore_n (lv' := [(2, .int x2_8), (0, .int (nI pl)), (1, .int (nI kk))]) hx hb dX2_profileWithout_8 rfl hl (by decide) rfl (fun ls hl => ?_)
  have h2 : x2_8 = nI (3 ^ (pl % 6)) := (by rw [ex2_8]; exact x_pow3 (by omega))
  have hpp : 0 < 3 ^ (pl % 6) := Nat.pow_pos (by decide)
  have hp7 : 3 ^ (pl % 6) ≤ 729 := Nat.pow_le_pow_right (n := 3) (j := 6) (by decide) (by omega)
  have hq : nI kk / x2_8 = nI (kk / 3 ^ (pl % 6)) := (by rw [h2, pk_div (by omega) hpp (by omega)])
  have hq3 : nI (kk / 3 ^ (pl % 6)) - nI (kk / 3 ^ (pl % 6)) / 3 * 3 = nI (kk / 3 ^ (pl % 6) % 3) := pk_rem (d := 3) (Nat.lt_of_le_of_lt (Nat.div_le_self _ _) (by omega)) (by omega) (by omega)
  have cut_24 : ∀ (x9 : Int32), (x9 = nI (f_wo pl kk)) → ∀ (H : Heap) (locs : List Loc) (ls : Array Slot), lv_has ls 3 [(0, .int (nI pl))] → x_B D cs base ad (x_n nS nB nC nO) (x_s nS nB nC nO nS nC) σ s H locs → W p l e (x_rm 1 0 0) s m ([.int (nI pl), .int (nI kk)] : List Value).toArray below meth c H locs 0 0 (MQ below (va_Qi (q_X2_profileWithout σ pl kk) (fun σ' => x_U D cs base ad (x_n nS nB nC nO) (x_s nS nB nC nO nS nC) σ') (x_A base)) ([.int (nI pl), .int (nI kk)] : List Value).toArray s 0 0 (x_A base)) (F0 m 24 ls [.int x9]) := by
    intro x9 h9 H locs ls hl hw
    exact xr_i hc hlocks hr rfl hw (⟨rfl, h9⟩) (Nat.le_of_ble_eq_true rfl) (Nat.le_of_ble_eq_true rfl) dX2_profileWithout_24
  refine lv_iload_n hx hb dX2_profileWithout_9 rfl (lv_at hl 2 rfl) ?_
  refine lv_iload_n hx hb dX2_profileWithout_10 rfl (lv_at hl 0 rfl) ?_
  refine lv_idiv hx hb dX2_profileWithout_11 (by rw [h2]; exact nI_ne0 hpp (by omega)) ?_
  refine lv_iconst (v := 3) hx hb dX2_profileWithout_12 (by decide) ?_
  refine lv_irem hx hb dX2_profileWithout_13 (by decide) ?_
  refine lv_if_le (tgt := 23) hx hb dX2_profileWithout_14 (by decide) (fun c_14 => ?_) (fun c_14 => ?_)
  · refine lv_iload_n hx hb dX2_profileWithout_23 rfl (lv_at hl 2 rfl) ?_
    exact cut_24 _ (by first | exact x_wo1 h2 hq hq3 c_14 | exact x_wo0 h2 hq hq3 c_14) _ _ _ (lv_sub hl [1] rfl) hw
  · refine lv_iload_n hx hb dX2_profileWithout_17 rfl (lv_at hl 2 rfl) ?_
    refine lv_iload_n hx hb dX2_profileWithout_18 rfl (lv_at hl 0 rfl) ?_
    refine lv_isub hx hb dX2_profileWithout_19 ?_
    refine lv_goto (tgt := 24) hx hb dX2_profileWithout_20 (by decide) ?_
    exact cut_24 _ (by first | exact x_wo1 h2 hq hq3 c_14 | exact x_wo0 h2 hq hq3 c_14) _ _ _ (lv_sub hl [1] rfl) hw
