/-- X2_writeCut -/
def q_X2_writeCut (σ : x_St) (i R C : Nat) : x_St → Prop := fun σ' => σ' = f_wo9 i C R 0 (x_up (x_up σ 5 i 7 0) 5 i 8 0)
set_option maxHeartbeats 4000000 in
set_option maxRecDepth 100000 in
theorem c_X2_writeCut {l : Launch} {D : va_G} {cs : Nat → ClassId} {base : Nat} {ad : Nat → Nat → Nat} {nS nB nC nO : Nat} {σ : x_St} (i R C : Nat) (hi : i < nS) (hR : σ 5 i 0 = nI R) (hR0 : R ≤ 6) (hC : σ 5 i 1 = nI C) (hC0 : C ≤ 6) (hsz : ∀ q, q < 36 → ∃ z, z ≤ 3 ∧ σ 14 0 q = nI z) : x_Cv l yX2_writeCut cX2_writeCut 7 2 0 0 D cs base ad (x_n nS nB nC nO) (x_s nS nB nC nO nS nC) σ [.ref (ad 2 0), .ref (ad 5 i)] (q_X2_writeCut σ i R C) (fun σ' => x_U D cs base ad (x_n nS nB nC nO) (x_s nS nB nC nO nS nC) σ') := by
  refine Met.ofW (cc := cX2_writeCut) (maxL := 7) (ret := none) (by decide) rfl ?_
  intro p e s m args below meth c s₁ B hml hv
  obtain ⟨rfl, hU⟩ := hv
  have hx := B.exec
  have hb := B.bytes
  have hr := B.returns
  have hts := atoms_spec (ws := Cond.code yX2_writeCut cX2_writeCut 7 (none) :: Tw) B.pre
  have hown : s.vm.findClass RX2 = some m.cls := findClass_of_methodNamed B.named
  have hlocks := B.notSynchronized
  have hc : CallFix p m c cX2_writeCut 7 s (([.ref (ad 2 0), .ref (ad 5 i)] : List Value).toArray) Tw RX2 := ⟨hx, hb, hml, hown, fun w hw => hts w (List.mem_cons_of_mem _ hw)⟩
  have hw := x_B.start hU
  have hl := lv_entry ([.ref (ad 2 0), .ref (ad 5 i)]) (n := 7) (Nat.le_of_ble_eq_true rfl)
  rw [lg_entry_eq]
  generalize (lg_sl ([.ref (ad 2 0), .ref (ad 5 i)]) ++ List.replicate (7 - (lg_sl ([.ref (ad 2 0), .ref (ad 5 i)])).length) Slot.unset).toArray = ls at hl ⊢
  have hl : lv_has ls 7 [(0, .ref (ad 2 0)), (1, .ref (ad 5 i))] := hl
  show W p l e (x_rm 2 0 0) s m ([.ref (ad 2 0), .ref (ad 5 i)] : List Value).toArray below meth c s.heap [] 0 0 (MQ below (va_Qv (q_X2_writeCut σ i R C) (fun σ' => x_U D cs base ad (x_n nS nB nC nO) (x_s nS nB nC nO nS nC) σ') (x_A base)) ([.ref (ad 2 0), .ref (ad 5 i)] : List Value).toArray s 0 0 (x_A base)) (F0 m 0 ls [])
  refine lv_aload_n hx hb dX2_writeCut_0 rfl (lv_at hl 1 rfl) ?_
  refine lv_iconst (v := 0) hx hb dX2_writeCut_1 (by decide) ?_
  refine xp_i hc hw 5 i 7 rfl rfl rfl rfl (by decide) (hi) rfl (ty := .int) (by decide +kernel) rfl rfl mw_153 dX2_writeCut_2 (fun H locs hw => ?_)
  refine lv_aload_n hx hb dX2_writeCut_5 rfl (lv_at hl 1 rfl) ?_
  refine lv_iconst (v := 0) hx hb dX2_writeCut_6 (by decide) ?_
  refine xp_i hc hw 5 i 8 rfl rfl rfl rfl (by decide) (hi) rfl (ty := .int) (by decide +kernel) rfl rfl mw_156 dX2_writeCut_7 (fun H locs hw => ?_)
  refine lv_iconst (v := 0) hx hb dX2_writeCut_10 (by decide) ?_
  refine lv_istore_n (lv' := [(2, .int 0), (0, .ref (ad 2 0)), (1, .ref (ad 5 i))]) hx hb dX2_writeCut_11 rfl hl (by decide) rfl (fun ls hl => ?_)
  refine lv_iconst (v := 0) hx hb dX2_writeCut_12 (by decide) ?_
  refine lv_istore_n (lv' := [(3, .int 0), (2, .int 0), (0, .ref (ad 2 0)), (1, .ref (ad 5 i))]) hx hb dX2_writeCut_13 rfl hl (by decide) rfl (fun ls hl => ?_)
  have cut_14 : ∀ (N : Nat) (r : Nat) (x2 : Int32) (x3 : Int32) (σc : x_St), (r ≤ R) → (x2 = nI (C * r)) → (x3 = nI r) → (σc 5 i 0 = nI R) → (σc 5 i 1 = nI C) → (∀ q, q < 36 → ∃ z, z ≤ 3 ∧ σc 14 0 q = nI z) → (f_wo9 i C (R - r) r σc = f_wo9 i C R 0 (x_up (x_up σ 5 i 7 0) 5 i 8 0)) → (R - r < N) → ∀ (H : Heap) (locs : List Loc) (ls : Array Slot), lv_has ls 7 [(0, .ref (ad 2 0)), (1, .ref (ad 5 i)), (2, .int x2), (3, .int x3)] → x_B D cs base ad (x_n nS nB nC nO) (x_s nS nB nC nO nS nC) σc s H locs → W p l e (x_rm 2 0 0) s m ([.ref (ad 2 0), .ref (ad 5 i)] : List Value).toArray below meth c H locs 0 0 (MQ below (va_Qv (q_X2_writeCut σ i R C) (fun σ' => x_U D cs base ad (x_n nS nB nC nO) (x_s nS nB nC nO nS nC) σ') (x_A base)) ([.ref (ad 2 0), .ref (ad 5 i)] : List Value).toArray s 0 0 (x_A base)) (F0 m 14 ls []) := by
    intro N
    induction N with
    | zero => intro r x2 x3 σc hr6 h2 h3 hR1 hC1 hszc hI hN; exact absurd hN (Nat.not_lt_zero _)
    | succ N ih_14 =>
      intro r x2 x3 σc hr6 h2 h3 hR1 hC1 hszc hI hN H locs ls hl hw
      refine lv_iload_n hx hb dX2_writeCut_14 rfl (lv_at hl 3 rfl) ?_
      refine lv_aload_n hx hb dX2_writeCut_15 rfl (lv_at hl 1 rfl) ?_
      refine xg_i hc hw 5 i 0 rfl rfl rfl rfl (by decide) (hi) mw_136 dX2_writeCut_16 ?_
      refine lv_icmp_ge (tgt := 126) hx hb dX2_writeCut_19 (by decide) (fun c_19 => ?_) (fun c_19 => ?_)
      · exact xr_v hc hlocks hr hw (by have hz := x_ge h3 hR1 (by omega) (by omega) c_19; rw [show R - r = 0 by omega, f_wo9] at hI; exact hI) (Nat.le_of_ble_eq_true rfl) (Nat.le_of_ble_eq_true rfl) dX2_writeCut_126
      · have hrl : r < R := x_nge h3 hR1 (by omega) (by omega) c_19
        have hst : R - r = (R - (r + 1)) + 1 := by omega
        rw [hst, f_wo9] at hI
        refine lv_iconst (v := 0) hx hb dX2_writeCut_22 (by decide) ?_
        refine lv_istore (lv' := [(4, .int 0), (0, .ref (ad 2 0)), (1, .ref (ad 5 i)), (2, .int x2), (3, .int x3)]) hx hb dX2_writeCut_23 hl (by decide) rfl (fun ls hl => ?_)
        have cut_25 : ∀ (N : Nat) (c9 : Nat) (x2 : Int32) (x4 : Int32) (σd : x_St), (c9 ≤ C) → (x2 = nI (C * r + c9)) → (x4 = nI c9) → (σd 5 i 0 = nI R) → (σd 5 i 1 = nI C) → (∀ q, q < 36 → ∃ z, z ≤ 3 ∧ σd 14 0 q = nI z) → (f_wi i C r (C - c9) c9 σd = f_wi i C r C 0 σc) → (C - c9 < N) → ∀ (H : Heap) (locs : List Loc) (ls : Array Slot), lv_has ls 7 [(0, .ref (ad 2 0)), (1, .ref (ad 5 i)), (2, .int x2), (3, .int x3), (4, .int x4)] → x_B D cs base ad (x_n nS nB nC nO) (x_s nS nB nC nO nS nC) σd s H locs → W p l e (x_rm 2 0 0) s m ([.ref (ad 2 0), .ref (ad 5 i)] : List Value).toArray below meth c H locs 0 0 (MQ below (va_Qv (q_X2_writeCut σ i R C) (fun σ' => x_U D cs base ad (x_n nS nB nC nO) (x_s nS nB nC nO nS nC) σ') (x_A base)) ([.ref (ad 2 0), .ref (ad 5 i)] : List Value).toArray s 0 0 (x_A base)) (F0 m 25 ls []) := by
          intro N
          induction N with
          | zero => intro c9 x2 x4 σd hc6 h2 h4 hR2 hC2 hszd hJ hN; exact absurd hN (Nat.not_lt_zero _)
          | succ N ih_25 =>
            intro c9 x2 x4 σd hc6 h2 h4 hR2 hC2 hszd hJ hN H locs ls hl hw
            refine lv_iload hx hb dX2_writeCut_25 (lv_at hl 4 rfl) ?_
            refine lv_aload_n hx hb dX2_writeCut_27 rfl (lv_at hl 1 rfl) ?_
            refine xg_i hc hw 5 i 1 rfl rfl rfl rfl (by decide) (hi) mw_139 dX2_writeCut_28 ?_
            refine lv_icmp_ge (tgt := 120) hx hb dX2_writeCut_31 (by decide) (fun c_31 => ?_) (fun c_31 => ?_)
            · obtain ⟨x3_120, ex3_120⟩ : ∃ y : Int32, y = x3 + 1 := ⟨_, rfl⟩
              refine lv_iinc (v := x3_120) (lv' := [(3, .int x3_120), (0, .ref (ad 2 0)), (1, .ref (ad 5 i)), (2, .int x2), (4, .int x4)]) hx hb dX2_writeCut_120 hl (k := 3) rfl (by rw [ex3_120]; rfl) (by decide) rfl (fun ls hl => ?_)
              refine lv_goto (tgt := 14) hx hb dX2_writeCut_123 (by decide) ?_
              exact ih_14 (r + 1) _ _ _ (by omega) (by have hz := x_ge h4 hC2 (by omega) (by omega) c_31; rw [h2, show C * r + c9 = C * (r + 1) by rw [Nat.mul_add]; omega]) (by rw [ex3_120, h3, nI_1]) (hR2) (hC2) (hszd) (by have hz := x_ge h4 hC2 (by omega) (by omega) c_31; rw [show C - c9 = 0 by omega, f_wi] at hJ; rw [← hJ] at hI; exact hI) (by omega) _ _ _ (lv_sub hl [1, 2, 3, 0] rfl) hw
            · have hcl : c9 < C := x_nge h4 hC2 (by omega) (by omega) c_31
              have hst2 : C - c9 = (C - (c9 + 1)) + 1 := by omega
              rw [hst2, f_wi] at hJ
              have hcr : C * r + c9 < 36 := Nat.lt_of_lt_of_le (show _ < C * (r + 1) by rw [Nat.mul_add]; omega) (show _ ≤ 6 * 6 from Nat.mul_le_mul hC0 (by omega))
              refine lv_iload_n hx hb dX2_writeCut_34 rfl (lv_at hl 3 rfl) ?_
              refine lv_bipush (v := 6) hx hb dX2_writeCut_35 (by decide) ?_
              refine lv_imul hx hb dX2_writeCut_37 ?_
              refine lv_iload hx hb dX2_writeCut_38 (lv_at hl 4 rfl) ?_
              refine lv_iadd hx hb dX2_writeCut_40 ?_
              refine lv_topi (fun x5_41 ex5_41 => ?_)
              refine lv_istore (lv' := [(5, .int x5_41), (0, .ref (ad 2 0)), (1, .ref (ad 5 i)), (2, .int x2), (3, .int x3), (4, .int x4)]) hx hb dX2_writeCut_41 hl (by decide) rfl (fun ls hl => ?_)
              have e5 : x5_41 = nI (6 * r + c9) := (by rw [ex5_41, h3, h4]; exact x_6c)
              obtain ⟨z, hz3, hz14⟩ := hszd (6 * r + c9) (by omega)
              refine lv_aload_n hx hb dX2_writeCut_43 rfl (lv_at hl 1 rfl) ?_
              refine xg_r hc hw 2 0 4 rfl rfl rfl rfl (by decide) (Nat.zero_lt_one) (Nat.zero_lt_one) mw_44 dX2_writeCut_44 ?_
              refine lv_iload hx hb dX2_writeCut_47 (lv_at hl 0 rfl) ?_
              refine xa_ld hc hw 14 0 (6 * r + c9) rfl (Nat.zero_lt_one) (e5) (by show _ < 36; omega) dX2_writeCut_49 ?_
              refine lv_topi (fun x6_50 ex6_50 => ?_)
              refine lv_istore (lv' := [(6, .int x6_50), (5, .int x5_41), (0, .ref (ad 2 0)), (1, .ref (ad 5 i)), (2, .int x2), (3, .int x3), (4, .int x4)]) hx hb dX2_writeCut_50 hl (by decide) rfl (fun ls hl => ?_)
              have e6 : x6_50 = nI z := (by rw [ex6_50]; exact hz14)
              have cut_111 : ∀ (σe : x_St), (σe 5 i 0 = nI R) → (σe 5 i 1 = nI C) → (∀ q, q < 36 → ∃ z, z ≤ 3 ∧ σe 14 0 q = nI z) → (f_wi i C r (C - (c9 + 1)) (c9 + 1) σe = f_wi i C r C 0 σc) → ∀ (H : Heap) (locs : List Loc) (ls : Array Slot), lv_has ls 7 [(0, .ref (ad 2 0)), (1, .ref (ad 5 i)), (2, .int x2), (3, .int x3), (4, .int x4)] → x_B D cs base ad (x_n nS nB nC nO) (x_s nS nB nC nO nS nC) σe s H locs → W p l e (x_rm 2 0 0) s m ([.ref (ad 2 0), .ref (ad 5 i)] : List Value).toArray below meth c H locs 0 0 (MQ below (va_Qv (q_X2_writeCut σ i R C) (fun σ' => x_U D cs base ad (x_n nS nB nC nO) (x_s nS nB nC nO nS nC) σ') (x_A base)) ([.ref (ad 2 0), .ref (ad 5 i)] : List Value).toArray s 0 0 (x_A base)) (F0 m 111 ls []) := by
                intro σe hRe hCe hsze hJe H locs ls hl hw
                obtain ⟨x2_111, ex2_111⟩ : ∃ y : Int32, y = x2 + 1 := ⟨_, rfl⟩
                refine lv_iinc (v := x2_111) (lv' := [(2, .int x2_111), (0, .ref (ad 2 0)), (1, .ref (ad 5 i)), (3, .int x3), (4, .int x4)]) hx hb dX2_writeCut_111 hl (k := 2) rfl (by rw [ex2_111]; rfl) (by decide) rfl (fun ls hl => ?_)
                obtain ⟨x4_114, ex4_114⟩ : ∃ y : Int32, y = x4 + 1 := ⟨_, rfl⟩
                refine lv_iinc (v := x4_114) (lv' := [(4, .int x4_114), (2, .int x2_111), (0, .ref (ad 2 0)), (1, .ref (ad 5 i)), (3, .int x3)]) hx hb dX2_writeCut_114 hl (k := 4) rfl (by rw [ex4_114]; rfl) (by decide) rfl (fun ls hl => ?_)
                refine lv_goto (tgt := 25) hx hb dX2_writeCut_117 (by decide) ?_
                exact ih_25 (c9 + 1) _ _ _ (by omega) (by rw [ex2_111, h2, nI_1]; rfl) (by rw [ex4_114, h4, nI_1]) (hRe) (hCe) (hsze) (hJe) (by omega) _ _ _ (lv_sub hl [2, 3, 1, 4, 0] rfl) hw
              refine lv_aload_n hx hb dX2_writeCut_52 rfl (lv_at hl 3 rfl) ?_
              refine xg_r hc hw 5 i 5 rfl rfl rfl rfl (by decide) (hi) (hi) mw_147 dX2_writeCut_53 ?_
              refine lv_iload_n hx hb dX2_writeCut_56 rfl (lv_at hl 4 rfl) ?_
              refine lv_iload hx hb dX2_writeCut_57 (lv_at hl 0 rfl) ?_
              refine xa_st hc hw 16 i (C * r + c9) rfl (hi) (h2) (by show _ < 36; omega) dX2_writeCut_59 (fun H locs hw => ?_)
              refine lv_iload hx hb dX2_writeCut_60 (lv_at hl 0 rfl) ?_
              refine lv_if_le (tgt := 111) hx hb dX2_writeCut_62 (by decide) (fun c_62 => ?_) (fun c_62 => ?_)
              · exact cut_111 _ (by rw [x_up_n (by simp)]; exact hR2) (by rw [x_up_n (by simp)]; exact hC2) (fun q hq => by rw [x_up_n (by simp)]; exact hszd q hq) (by rw [f_w1, if_pos (by rw [← ex6_50]; exact c_62), ← ex6_50] at hJ; exact hJ) _ _ _ (lv_sub hl [2, 3, 4, 5, 6] rfl) hw
              · refine lv_aload_n hx hb dX2_writeCut_65 rfl (lv_at hl 3 rfl) ?_
                refine xg_r hc hw 5 i 6 rfl rfl rfl rfl (by decide) (hi) (hi) mw_149 dX2_writeCut_66 ?_
                refine lv_iload_n hx hb dX2_writeCut_69 rfl (lv_at hl 4 rfl) ?_
                refine lv_aload_n hx hb dX2_writeCut_70 rfl (lv_at hl 3 rfl) ?_
                refine lv_iload hx hb dX2_writeCut_71 (lv_at hl 1 rfl) ?_
                refine lv_iload hx hb dX2_writeCut_73 (lv_at hl 0 rfl) ?_
                refine xc_Vi hc hw 5 i (c_X5_blankThickness i (6 * r + c9) z hi (by omega) hz3) rfl rfl (hi) mw_358 mw_355 mw_5 mw_356 mw_357 xd_X5_blankThickness ⟨by decide, by decide⟩ (by rw [e5, e6]; rfl) hl.1 (Nat.le_of_ble_eq_true rfl) dX2_writeCut_75 ⟨Nat.le_of_ble_eq_true rfl, Nat.le_of_ble_eq_true rfl⟩ (fun r_75 σ_75 H locs hq hw => ?_)
                obtain ⟨hσ_75, hr_75⟩ := hq
                rw [hσ_75] at hw
                refine xa_st hc hw 17 i (C * r + c9) rfl (hi) (h2) (by show _ < 36; omega) dX2_writeCut_78 (fun H locs hw => ?_)
                refine lv_aload_n hx hb dX2_writeCut_79 rfl (lv_at hl 3 rfl) ?_
                refine lv_dup hx hb dX2_writeCut_80 rfl ?_
                refine xg_i hc hw 5 i 7 rfl rfl rfl rfl (by decide) (hi) mw_153 dX2_writeCut_81 ?_
                refine lv_aload_n hx hb dX2_writeCut_84 rfl (lv_at hl 2 rfl) ?_
                refine xg_r hc hw 2 0 2 rfl rfl rfl rfl (by decide) (Nat.zero_lt_one) (Nat.zero_lt_one) mw_42 dX2_writeCut_85 ?_
                refine lv_iload hx hb dX2_writeCut_88 (lv_at hl 0 rfl) ?_
                refine lv_bipush (v := 36) hx hb dX2_writeCut_90 (by decide) ?_
                refine lv_imul hx hb dX2_writeCut_92 ?_
                refine lv_iload hx hb dX2_writeCut_93 (lv_at hl 1 rfl) ?_
                refine lv_iadd hx hb dX2_writeCut_95 ?_
                refine xa_ld hc hw 12 0 (36 * z + (6 * r + c9)) rfl (Nat.zero_lt_one) (by rw [e5, e6]; exact x_36z) (by show _ < 144; omega) dX2_writeCut_96 ?_
                refine lv_iadd hx hb dX2_writeCut_97 ?_
                refine xp_i hc hw 5 i 7 rfl rfl rfl rfl (by decide) (hi) rfl (ty := .int) (by decide +kernel) rfl rfl mw_153 dX2_writeCut_98 (fun H locs hw => ?_)
                refine lv_aload_n hx hb dX2_writeCut_101 rfl (lv_at hl 3 rfl) ?_
                refine lv_dup hx hb dX2_writeCut_102 rfl ?_
                refine xg_i hc hw 5 i 8 rfl rfl rfl rfl (by decide) (hi) mw_156 dX2_writeCut_103 ?_
                refine lv_iconst (v := 1) hx hb dX2_writeCut_106 (by decide) ?_
                refine lv_iadd hx hb dX2_writeCut_107 ?_
                refine xp_i hc hw 5 i 8 rfl rfl rfl rfl (by decide) (hi) rfl (ty := .int) (by decide +kernel) rfl rfl mw_156 dX2_writeCut_108 (fun H locs hw => ?_)
                exact cut_111 _ (by rw [x_up_n (by simp), x_up_n (by simp), x_up_n (by simp), x_up_n (by simp)]; exact hR2) (by rw [x_up_n (by simp), x_up_n (by simp), x_up_n (by simp), x_up_n (by simp)]; exact hC2) (fun q hq => by rw [x_up_n (by simp), x_up_n (by simp), x_up_n (by simp), x_up_n (by simp)]; exact hszd q hq) (by rw [f_w1, if_neg (by rw [← ex6_50]; exact c_62), ← ex6_50, e6, x_cn (by omega)] at hJ; rw [f_w1_m, hr_75, f_w1_G, e6]; exact hJ) _ _ _ (lv_sub hl [2, 3, 4, 5, 6] rfl) hw
        exact cut_25 _ 0 _ _ _ (Nat.zero_le _) (h2) (rfl) (hR1) (hC1) (hszc) (rfl) (Nat.lt_succ_self _) _ _ _ (lv_sub hl [1, 2, 3, 4, 0] rfl) hw
  exact cut_14 _ 0 _ _ _ (Nat.zero_le _) (rfl) (rfl) (by rw [x_up_n (by simp), x_up_n (by simp)]; exact hR) (by rw [x_up_n (by simp), x_up_n (by simp)]; exact hC) (fun q hq => by rw [x_up_n (by simp), x_up_n (by simp)]; exact hsz q hq) (rfl) (Nat.lt_succ_self _) _ _ _ (lv_sub hl [2, 3, 1, 0] rfl) hw
