theorem f_sd_k (j : Nat) (a b : Int32) : ∀ (f k n : Nat) (σ : x_St) (kk i q : Nat), kk ≠ 0 ∧ kk ≠ 1 ∧ kk ≠ 10 → f_sd j a b f k n σ kk i q = σ kk i q
  | 0, _, _, _, _, _, _, _ => rfl
  | f + 1, k, n, σ, kk, i, q, h => by
    rw [f_sd]
    split
    · rfl
    · split
      · rw [f_sd_k j a b f (k + 1) (n + 1) _ kk i q h]
        simp [x_up, f_sew, h.1, h.2.1, h.2.2]
      · rw [f_sd_k j a b f (k + 1) n σ kk i q h]
theorem x_ltI {x : Int32} {n : Nat} (h : x = nI n) (hn : n < 2 ^ 31) (h0 : x < 30) : n < 30 := by
  rw [h] at h0
  exact (nI_ltI hn (by decide)).mp (show nI n < nI 30 from h0)
theorem x_nltI {x : Int32} {n : Nat} (h : x = nI n) (h0 : ¬ x < 30) : ¬ n < 30 := fun q => h0 (by rw [h]; exact nI_lt q (by decide))
theorem x_caN {nS nB nC nO : Nat} : fn_X1_init (x_set (x_n nS nB nC nO) 1 (nC + 1)) nC = x_n nS nB (nC + 1) nO := by
  funext k
  simp only [fn_X1_init, x_set]
  by_cases h1 : k = 10
  · subst h1; rfl
  by_cases h2 : k = 1
  · subst h2; rfl
  simp only [h1, h2, if_false]
  unfold x_n
  split <;> simp_all
theorem x_caS {nS nB nC nO : Nat} : fs_X1_init (x_s nS nB nC nO nS nC) nC = x_s nS nB nC nO nS (nC + 1) := by
  funext k
  simp only [fs_X1_init, x_set]
  by_cases h1 : k = 110
  · subst h1; rfl
  simp only [h1, if_false]
  unfold x_s
  split <;> simp_all
theorem x_caS2 {nS nB nC nO : Nat} : x_set (x_s nS nB nC nO nS (nC + 1)) 23 (nC + 1) = x_s nS nB (nC + 1) nO nS (nC + 1) := by
  funext k
  simp only [x_set]
  by_cases h1 : k = 23
  · subst h1; rfl
  simp only [h1, if_false]
  unfold x_s
  split <;> simp_all
/-- a card that isn't made: its names are forgotten -/
theorem x_caF {D : va_G} {cs : Nat → ClassId} {base : Nat} {ad : Nat → Nat → Nat} {σ : x_St} {s : State} {H : Heap} {locs : List Loc} {nS nB nC nO : Nat} (hw : x_B D cs base ad (x_n nS nB (nC + 1) nO) (x_s nS nB nC nO nS (nC + 1)) σ s H locs) : x_B D cs base ad (x_n nS nB nC nO) (x_s nS nB nC nO nS nC) σ s H locs := by
  rw [← x_caN, ← x_caS] at hw
  refine hw.re (fun a b h => x_mono (x_mono h (Nat.le_succ _)) (Nat.le_succ _)) (fun _ _ _ => rfl) (fun a b hb => x_E_eq (fun _ => rfl) (fun d q hq => ⟨?_, fun _ => rfl⟩) (fun h3 j => ⟨?_, fun _ => rfl⟩))
  · simp only [fs_X1_init, x_set]
    by_cases h1 : 100 + q = 110
    · have hq10 : q = 10 := by omega
      subst hq10
      have ha : a = 1 := (congrArg Prod.fst (x_ow_of hq)).symm
      subst ha
      have hb' : b < nC := hb
      rw [if_pos h1]
      show b < nC ↔ b < nC + 1
      omega
    rw [if_neg h1]
  · have : a < 100 := by
      rcases Nat.lt_or_ge a 100 with q | q
      · exact q
      · exfalso
        unfold x_kd at h3
        split at h3 <;> omega
    simp only [fs_X1_init, x_set]
    rw [if_neg (by omega)]
/-- X6_card -/
def q_X6_card (ad : Nat → Nat → Nat) (n : Nat → Nat) (σ : x_St) (a b d f : Int32) (nB nC : Nat) : Int32 → ((Nat → Nat → Nat) × Nat × x_St) → Prop := fun r u => (∀ a b, b < n a → u.1 a b = ad a b) ∧ ((1 ≤ a ∧ a ≤ 3) ∧ (b = 2 ∨ b = 4) ∧ (0 ≤ d ∧ d ≤ 9) ∧ 0 ≤ f ∧ f ≤ 8) ∧ (nC < 30 → ¬ ((f_bt (f_X1_init (x_zr σ 1 nC) nC a b d) nC f nB 9 1 (-1) 400).1) = -1 → r = nI nC ∧ u.2.1 = nC + 1 ∧ u.2.2 = x_up (f_sd nC ((f_bt (f_X1_init (x_zr σ 1 nC) nC a b d) nC f nB 9 1 (-1) 400).1) (((f_bt (f_X1_init (x_zr σ 1 nC) nC a b d) nC f nB 9 1 (-1) 400).1) + f) nB 0 0 (f_X1_init (x_zr σ 1 nC) nC a b d)) 6 0 6 (nI (nC + 1))) ∧ (nC < 30 → ((f_bt (f_X1_init (x_zr σ 1 nC) nC a b d) nC f nB 9 1 (-1) 400).1) = -1 → r = -1 ∧ u.2.1 = nC ∧ u.2.2 = (f_X1_init (x_zr σ 1 nC) nC a b d)) ∧ (¬ nC < 30 → r = -1 ∧ u.2.1 = nC ∧ u.2.2 = σ)
set_option maxHeartbeats 4000000 in
set_option maxRecDepth 100000 in
theorem c_X6_card {l : Launch} {D : va_G} {cs : Nat → ClassId} {base : Nat} {ad : Nat → Nat → Nat} {nS nB nC nO : Nat} {σ : x_St} (hl0 : l.stackTraces = false) (a b d f : Int32) (hB : σ 6 0 3 = nI nB) (hB0 : nB ≤ 400) (hC : σ 6 0 6 = nI nC) (hC0 : nC ≤ 30) : x_Xi l yX6_card cX6_card 7 (some .int) 8 2 19 D cs base ad (x_n nS nB nC nO) (x_s nS nB nC nO nS nC) σ [.ref (ad 6 0), .int a, .int b, .int d, .int f] (q_X6_card ad (x_n nS nB nC nO) σ a b d f nB nC) (fun u => x_U D cs base u.1 (x_n nS nB u.2.1 nO) (x_s nS nB u.2.1 nO nS u.2.1) u.2.2) (fun E => E = x_iae ∧ ¬ ((1 ≤ a ∧ a ≤ 3) ∧ (b = 2 ∨ b = 4) ∧ (0 ≤ d ∧ d ≤ 9) ∧ 0 ≤ f ∧ f ≤ 8)) := by
  refine vx_ofW (cc := cX6_card) (maxL := 7) (ret := some .int) (by decide) rfl ?_
  intro p e s m args below meth c s₁ B hml hout hv
  obtain ⟨rfl, hU⟩ := hv
  have hx := B.exec
  have hb := B.bytes
  have hr := B.returns
  have hts := atoms_spec (ws := Cond.code yX6_card cX6_card 7 (some .int) :: Tw) B.pre
  have hown : s.vm.findClass RX6 = some m.cls := findClass_of_methodNamed B.named
  have hlocks := B.notSynchronized
  have hc : CallFix p m c cX6_card 7 s (([.ref (ad 6 0), .int a, .int b, .int d, .int f] : List Value).toArray) Tw RX6 := ⟨hx, hb, hml, hown, fun w hw => hts w (List.mem_cons_of_mem _ hw)⟩
  have hw := x_B.start hU
  have hl := lv_entry ([.ref (ad 6 0), .int a, .int b, .int d, .int f]) (n := 7) (Nat.le_of_ble_eq_true rfl)
  rw [lg_entry_eq]
  generalize (lg_sl ([.ref (ad 6 0), .int a, .int b, .int d, .int f]) ++ List.replicate (7 - (lg_sl ([.ref (ad 6 0), .int a, .int b, .int d, .int f])).length) Slot.unset).toArray = ls at hl ⊢
  have hl : lv_has ls 7 [(0, .ref (ad 6 0)), (1, .int a), (2, .int b), (3, .int d), (4, .int f)] := hl
  generalize ([.ref (ad 6 0), .int a, .int b, .int d, .int f] : List Value).toArray = args at hc ⊢
  show W p l e (x_rm 8 2 19) s m args below meth c s.heap [] 0 0 (vx_MQ below (va_Qi (q_X6_card ad (x_n nS nB nC nO) σ a b d f nB nC) (fun u => x_U D cs base u.1 (x_n nS nB u.2.1 nO) (x_s nS nB u.2.1 nO nS u.2.1) u.2.2) (x_A base)) (x_XC D cs base ad (x_n nS nB nC nO) (x_s nS nB nC nO nS nC) σ (fun E => E = x_iae ∧ ¬ ((1 ≤ a ∧ a ≤ 3) ∧ (b = 2 ∨ b = 4) ∧ (0 ≤ d ∧ d ≤ 9) ∧ 0 ≤ f ∧ f ≤ 8))) args s 2 19 (x_A base)) (F0 m 0 ls [])
  refine lv_iload_n hx hb dX6_card_0 rfl (lv_at hl 1 rfl) ?_
  refine xc_Si hc hw (c_X6_isSize a) mw_190 mw_188 mw_1 mw_189 xd_X6_isSize ⟨by decide, by decide⟩ (rfl) hl.1 (Nat.le_of_ble_eq_true rfl) dX6_card_1 ⟨Nat.le_of_ble_eq_true rfl, Nat.le_of_ble_eq_true rfl⟩ (fun r_1 σ_1 H locs hq hw => ?_)
  obtain ⟨hσ_1, hr_1⟩ := hq
  rw [hσ_1] at hw
  refine lv_if_eq (tgt := 35) hx hb dX6_card_4 (by decide) (fun c_4 => ?_) (fun c_4 => ?_)
  · exact xk_I hl0 hc hout hlocks hw (is := 213) (text := "no such size, holes, tint or span") (by decide +kernel) (⟨rfl, fun q => by first | exact x_if0 hr_1 c_4 q.1 | exact x_if0 hr_8 c_11 q.2.1 | exact x_if0 hr_18 c_21 q.2.2.1 | exact x_if0 hr_29 c_32 q.2.2.2⟩) dX6_card_35 dX6_card_38 dX6_card_39 dX6_card_41 dX6_card_44 hl.1 ⟨by decide, Nat.le_of_ble_eq_true rfl, by decide, by decide⟩ (by decide) (by decide)
  · refine lv_iload_n hx hb dX6_card_7 rfl (lv_at hl 2 rfl) ?_
    refine xc_Si hc hw (c_X6_isHoles b) mw_193 mw_191 mw_1 mw_192 xd_X6_isHoles ⟨by decide, by decide⟩ (rfl) hl.1 (Nat.le_of_ble_eq_true rfl) dX6_card_8 ⟨Nat.le_of_ble_eq_true rfl, Nat.le_of_ble_eq_true rfl⟩ (fun r_8 σ_8 H locs hq hw => ?_)
    obtain ⟨hσ_8, hr_8⟩ := hq
    rw [hσ_8] at hw
    refine lv_if_eq (tgt := 35) hx hb dX6_card_11 (by decide) (fun c_11 => ?_) (fun c_11 => ?_)
    · exact xk_I hl0 hc hout hlocks hw (is := 213) (text := "no such size, holes, tint or span") (by decide +kernel) (⟨rfl, fun q => by first | exact x_if0 hr_1 c_4 q.1 | exact x_if0 hr_8 c_11 q.2.1 | exact x_if0 hr_18 c_21 q.2.2.1 | exact x_if0 hr_29 c_32 q.2.2.2⟩) dX6_card_35 dX6_card_38 dX6_card_39 dX6_card_41 dX6_card_44 hl.1 ⟨by decide, Nat.le_of_ble_eq_true rfl, by decide, by decide⟩ (by decide) (by decide)
    · refine lv_iload_n hx hb dX6_card_14 rfl (lv_at hl 3 rfl) ?_
      refine lv_iconst (v := 0) hx hb dX6_card_15 (by decide) ?_
      refine lv_bipush (v := 9) hx hb dX6_card_16 (by decide) ?_
      refine xc_Si hc hw (c_X6_isWithin d 0 9) mw_128 mw_126 mw_1 mw_127 xd_X6_isWithin ⟨by decide, by decide⟩ (rfl) hl.1 (Nat.le_of_ble_eq_true rfl) dX6_card_18 ⟨Nat.le_of_ble_eq_true rfl, Nat.le_of_ble_eq_true rfl⟩ (fun r_18 σ_18 H locs hq hw => ?_)
      obtain ⟨hσ_18, hr_18⟩ := hq
      rw [hσ_18] at hw
      refine lv_if_eq (tgt := 35) hx hb dX6_card_21 (by decide) (fun c_21 => ?_) (fun c_21 => ?_)
      · exact xk_I hl0 hc hout hlocks hw (is := 213) (text := "no such size, holes, tint or span") (by decide +kernel) (⟨rfl, fun q => by first | exact x_if0 hr_1 c_4 q.1 | exact x_if0 hr_8 c_11 q.2.1 | exact x_if0 hr_18 c_21 q.2.2.1 | exact x_if0 hr_29 c_32 q.2.2.2⟩) dX6_card_35 dX6_card_38 dX6_card_39 dX6_card_41 dX6_card_44 hl.1 ⟨by decide, Nat.le_of_ble_eq_true rfl, by decide, by decide⟩ (by decide) (by decide)
      · refine lv_iload hx hb dX6_card_24 (lv_at hl 4 rfl) ?_
        refine lv_iconst (v := 0) hx hb dX6_card_26 (by decide) ?_
        refine lv_bipush (v := 8) hx hb dX6_card_27 (by decide) ?_
        refine xc_Si hc hw (c_X6_isWithin f 0 8) mw_128 mw_126 mw_1 mw_127 xd_X6_isWithin ⟨by decide, by decide⟩ (rfl) hl.1 (Nat.le_of_ble_eq_true rfl) dX6_card_29 ⟨Nat.le_of_ble_eq_true rfl, Nat.le_of_ble_eq_true rfl⟩ (fun r_29 σ_29 H locs hq hw => ?_)
        obtain ⟨hσ_29, hr_29⟩ := hq
        rw [hσ_29] at hw
        refine lv_if_ne (tgt := 45) hx hb dX6_card_32 (by decide) (fun c_32 => ?_) (fun c_32 => ?_)
        · have hP : ((1 ≤ a ∧ a ≤ 3) ∧ (b = 2 ∨ b = 4) ∧ (0 ≤ d ∧ d ≤ 9) ∧ 0 ≤ f ∧ f ≤ 8) := ⟨x_if1 hr_1 c_4, x_if1 hr_8 c_11, x_if1 hr_18 c_21, x_if1 hr_29 c_32⟩
          refine lv_aload_n hx hb dX6_card_45 rfl (lv_at hl 0 rfl) ?_
          refine xg_i hc hw 6 0 6 rfl rfl rfl rfl (by decide) (Nat.zero_lt_one) mw_85 dX6_card_46 ?_
          refine lv_bipush (v := 30) hx hb dX6_card_49 (by decide) ?_
          refine lv_icmp_lt (tgt := 56) hx hb dX6_card_51 (by decide) (fun c_51 => ?_) (fun c_51 => ?_)
          · have h30 : nC < 30 := x_ltI hC (by omega) c_51
            refine xn_obj hc hw 1 nC rfl rfl rfl (rfl) (Nat.zero_le _) (x_rk (by omega) (by omega) (by omega) (fun _ => Nat.le_refl _) (by omega)) (fun j q hq => by match j, hq with | 3, hq => cases hq; exact Nat.le_refl _) mw_30 mw_554 mw_14 (Nat.le_of_ble_eq_true rfl) (Nat.le_of_ble_eq_true rfl) dX6_card_56 (fun ad_56 H hag_56 hw => ?_)
            have hl : lv_has ls 7 [(0, .ref (ad_56 6 0)), (1, .int a), (2, .int b), (3, .int d), (4, .int f)] := by rw [hag_56 6 0 (fun z => absurd z.1 (by decide))]; exact hl
            refine lv_dup hx hb dX6_card_59 rfl ?_
            refine lv_iload_n hx hb dX6_card_60 rfl (lv_at hl 1 rfl) ?_
            refine lv_iload_n hx hb dX6_card_61 rfl (lv_at hl 2 rfl) ?_
            refine lv_iload_n hx hb dX6_card_62 rfl (lv_at hl 3 rfl) ?_
            refine xc_Iv hc hw (c_X1_init nC a b d (Nat.lt_succ_self nC) (rfl) (rfl)) mw_557 mw_555 mw_14 mw_556 rfl xd_X1_init ⟨by decide, by decide⟩ (rfl) hl.1 (Nat.le_of_ble_eq_true rfl) dX6_card_63 ⟨Nat.le_of_ble_eq_true rfl, Nat.le_of_ble_eq_true rfl⟩ (fun ad_63 H locs hag_63 hw => ?_)
            have hl : lv_has ls 7 [(0, .ref (ad_63 6 0)), (1, .int a), (2, .int b), (3, .int d), (4, .int f)] := by rw [hag_63 6 0 (Nat.zero_lt_one)]; exact hl
            rw [← hag_63 1 nC (Nat.lt_succ_self nC)]
            refine lv_astore (lv' := [(5, .ref (ad_63 1 nC)), (0, .ref (ad_63 6 0)), (1, .int a), (2, .int b), (3, .int d), (4, .int f)]) hx hb dX6_card_66 hl (by decide) rfl (fun ls hl => ?_)
            rw [x_caN, x_caS] at hw
            have hB1 : (f_X1_init (x_zr σ 1 nC) nC a b d) 6 0 3 = nI nB := (by simpa [f_X1_init, x_up, x_zr] using hB)
            have hC1 : (f_X1_init (x_zr σ 1 nC) nC a b d) 6 0 6 = nI nC := (by simpa [f_X1_init, x_up, x_zr] using hC)
            refine lv_aload_n hx hb dX6_card_68 rfl (lv_at hl 1 rfl) ?_
            refine lv_aload hx hb dX6_card_69 (lv_at hl 0 rfl) ?_
            refine lv_iload hx hb dX6_card_71 (lv_at hl 5 rfl) ?_
            refine xc_Vi hc hw 6 0 (c_X6_bestLeastThickness nC f (Nat.lt_succ_self nC) hB1 hB0) rfl rfl (Nat.zero_lt_one) mw_598 mw_595 mw_1 mw_597 mp_13 xd_X6_bestLeastThickness ⟨by decide, by decide⟩ (rfl) hl.1 (Nat.le_of_ble_eq_true rfl) dX6_card_73 ⟨Nat.le_of_ble_eq_true rfl, Nat.le_of_ble_eq_true rfl⟩ (fun r_73 σ_73 H locs hq hw => ?_)
            obtain ⟨hσ_73, hr_73⟩ := hq
            rw [hσ_73] at hw
            refine lv_istore (lv' := [(6, .int r_73), (5, .ref (ad_63 1 nC)), (0, .ref (ad_63 6 0)), (1, .int a), (2, .int b), (3, .int d), (4, .int f)]) hx hb dX6_card_76 hl (by decide) rfl (fun ls hl => ?_)
            refine lv_iload hx hb dX6_card_78 (lv_at hl 0 rfl) ?_
            refine lv_iconst (v := (-1)) hx hb dX6_card_80 (by decide) ?_
            refine lv_icmp_ne (tgt := 86) hx hb dX6_card_81 (by decide) (fun c_81 => ?_) (fun c_81 => ?_)
            · refine lv_aload_n hx hb dX6_card_86 rfl (lv_at hl 2 rfl) ?_
              refine lv_aload hx hb dX6_card_87 (lv_at hl 1 rfl) ?_
              refine lv_iload hx hb dX6_card_89 (lv_at hl 0 rfl) ?_
              refine lv_iload hx hb dX6_card_91 (lv_at hl 0 rfl) ?_
              refine lv_iload hx hb dX6_card_93 (lv_at hl 6 rfl) ?_
              refine lv_iadd hx hb dX6_card_95 ?_
              refine xc_Vv hc hw 6 0 (c_X6_sewDozen nC r_73 (r_73 + f) (Nat.lt_succ_self nC) hB1 hB0) rfl rfl (Nat.zero_lt_one) mw_611 mw_608 mw_1 mw_610 mp_15 xd_X6_sewDozen ⟨by decide, by decide⟩ (rfl) hl.1 (Nat.le_of_ble_eq_true rfl) dX6_card_96 ⟨Nat.le_of_ble_eq_true rfl, Nat.le_of_ble_eq_true rfl⟩ (fun σ_96 H locs hq hw => ?_)
              have hq_96 := hq
              have hσ_96 : σ_96 = (f_sd nC ((f_bt (f_X1_init (x_zr σ 1 nC) nC a b d) nC f nB 9 1 (-1) 400).1) (((f_bt (f_X1_init (x_zr σ 1 nC) nC a b d) nC f nB 9 1 (-1) 400).1) + f) nB 0 0 (f_X1_init (x_zr σ 1 nC) nC a b d)) := (by rw [← hr_73]; exact hq_96)
              rw [hσ_96] at hw
              refine lv_aload_n hx hb dX6_card_99 rfl (lv_at hl 2 rfl) ?_
              refine xg_r hc hw 6 0 5 rfl rfl rfl rfl (by decide) (Nat.zero_lt_one) (Nat.zero_lt_one) mw_84 dX6_card_100 ?_
              refine lv_aload_n hx hb dX6_card_103 rfl (lv_at hl 2 rfl) ?_
              refine xg_i hc hw 6 0 6 rfl rfl rfl rfl (by decide) (Nat.zero_lt_one) mw_85 dX6_card_104 ?_
              refine lv_aload hx hb dX6_card_107 (lv_at hl 1 rfl) ?_
              have hjs_109 : nC = (x_s nS nB nC nO nS (nC + 1)) 23 := by first | rfl | exact rfl
              refine xa_rst (st' := x_set (x_s nS nB nC nO nS (nC + 1)) 23 (nC + 1)) hc hw 23 0 rfl (Nat.zero_lt_one) (rfl) ((f_sd_k _ _ _ _ _ _ _ 6 0 6 (by decide)).trans hC1) hjs_109 (h30) (Nat.lt_succ_self nC) (fun a => by rw [← hjs_109]; rfl) dX6_card_109 (fun H locs hw => ?_)
              rw [x_caS2] at hw
              refine lv_aload_n hx hb dX6_card_110 rfl (lv_at hl 2 rfl) ?_
              refine lv_dup hx hb dX6_card_111 rfl ?_
              refine xg_i hc hw 6 0 6 rfl rfl rfl rfl (by decide) (Nat.zero_lt_one) mw_85 dX6_card_112 ?_
              refine lv_iconst (v := 1) hx hb dX6_card_115 (by decide) ?_
              refine lv_iadd hx hb dX6_card_116 ?_
              refine xp_i hc hw 6 0 6 rfl rfl rfl rfl (by decide) (Nat.zero_lt_one) rfl (ty := .int) (by decide +kernel) rfl rfl mw_85 dX6_card_117 (fun H locs hw => ?_)
              rw [f_sd_k _ _ _ _ _ _ _ 6 0 6 (by decide), hC1, nI_1] at hw
              refine lv_aload_n hx hb dX6_card_120 rfl (lv_at hl 2 rfl) ?_
              refine xg_i hc hw 6 0 6 rfl rfl rfl rfl (by decide) (Nat.zero_lt_one) mw_85 dX6_card_121 ?_
              refine lv_iconst (v := 1) hx hb dX6_card_124 (by decide) ?_
              refine lv_isub hx hb dX6_card_125 ?_
              exact xr_xi (u := (ad_63, nC + 1, x_up (f_sd nC ((f_bt (f_X1_init (x_zr σ 1 nC) nC a b d) nC f nB 9 1 (-1) 400).1) (((f_bt (f_X1_init (x_zr σ 1 nC) nC a b d) nC f nB 9 1 (-1) 400).1) + f) nB 0 0 (f_X1_init (x_zr σ 1 nC) nC a b d)) 6 0 6 (nI (nC + 1)))) hc hlocks hr rfl hw (⟨fun a b hb => (Eq.trans (hag_63 a b ((x_mono hb (Nat.le_trans (Nat.le_of_eq (rfl)) (Nat.le_succ _))))) (x_ag hag_56 (Nat.le_refl _) hb)), hP, fun _ _ => ⟨by rw [x_up_s, ← nI_1]; exact x_p1 nC, rfl, rfl⟩, fun _ q => absurd (hr_73.trans q) c_81, fun q => absurd h30 q⟩) (Nat.le_of_ble_eq_true rfl) (Nat.le_of_ble_eq_true rfl) dX6_card_126
            · replace hw := x_caF hw
              refine lv_iconst (v := (-1)) hx hb dX6_card_84 (by decide) ?_
              exact xr_xi (u := (ad_63, nC, (f_X1_init (x_zr σ 1 nC) nC a b d))) hc hlocks hr rfl hw (⟨fun a b hb => (Eq.trans (hag_63 a b ((x_mono hb (Nat.le_trans (Nat.le_of_eq (rfl)) (Nat.le_succ _))))) (x_ag hag_56 (Nat.le_refl _) hb)), hP, fun _ q => absurd (hr_73.symm.trans c_81) q, fun _ _ => ⟨rfl, rfl, rfl⟩, fun q => absurd h30 q⟩) (Nat.le_of_ble_eq_true rfl) (Nat.le_of_ble_eq_true rfl) dX6_card_85
          · refine lv_iconst (v := (-1)) hx hb dX6_card_54 (by decide) ?_
            exact xr_xi (u := (ad, nC, σ)) hc hlocks hr rfl hw (⟨fun _ _ _ => rfl, hP, fun q => absurd q (x_nltI hC c_51), fun q => absurd q (x_nltI hC c_51), fun _ => ⟨rfl, rfl, rfl⟩⟩) (Nat.le_of_ble_eq_true rfl) (Nat.le_of_ble_eq_true rfl) dX6_card_55
        · exact xk_I hl0 hc hout hlocks hw (is := 213) (text := "no such size, holes, tint or span") (by decide +kernel) (⟨rfl, fun q => by first | exact x_if0 hr_1 c_4 q.1 | exact x_if0 hr_8 c_11 q.2.1 | exact x_if0 hr_18 c_21 q.2.2.1 | exact x_if0 hr_29 c_32 q.2.2.2⟩) dX6_card_35 dX6_card_38 dX6_card_39 dX6_card_41 dX6_card_44 hl.1 ⟨by decide, Nat.le_of_ble_eq_true rfl, by decide, by decide⟩ (by decide) (by decide)
