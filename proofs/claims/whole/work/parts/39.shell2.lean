def f_sh (σ : x_St) (a b d e0 e1 e2 e3 e4 e5 : Int32) (nS : Nat) : Bool × x_St := f_po nS (x_c b) (x_c a) 0 (f_X5_init (x_zr (x_up (x_up (x_up (x_up (x_up (x_up σ 19 0 0 e0) 19 0 1 e1) 19 0 2 e2) 19 0 3 e3) 19 0 4 e4) 19 0 5 e5) 5 nS) nS a b d)
theorem f_pi_k (i r : Nat) (v : Int32) : ∀ (f c : Nat) (σ : x_St) (k j q : Nat), k ≠ 15 → (f_pi i r v f c σ).2 k j q = σ k j q
  | 0, _, _, _, _, _, _ => rfl
  | f + 1, c, σ, k, j, q, h => by
    rw [f_pi]
    split
    · rw [f_pi_k i r v f (c + 1) _ k j q h, x_up_n (fun z => h z.1)]
    · rfl
theorem f_po_k (i C : Nat) : ∀ (f r : Nat) (σ : x_St) (k j q : Nat), k ≠ 15 → (f_po i C f r σ).2 k j q = σ k j q
  | 0, _, _, _, _, _, _ => rfl
  | f + 1, r, σ, k, j, q, h => by
    rw [f_po]
    split
    · rw [f_po_k i C f (r + 1) _ k j q h, f_pi_k i r _ C 0 σ k j q h]
    · exact f_pi_k i r _ C 0 σ k j q h
theorem f_sh_c {σ : x_St} {a b d e0 e1 e2 e3 e4 e5 : Int32} {nS : Nat} {v : Int32} (h : σ 6 0 1 = v) : (f_sh σ a b d e0 e1 e2 e3 e4 e5 nS).2 6 0 1 = v := by
  unfold f_sh
  rw [f_po_k _ _ _ _ _ 6 0 1 (by decide)]
  simpa [f_X5_init, x_up, x_zr] using h
theorem x_shN {nS nB nC nO : Nat} : fn_X5_init (x_set (x_n nS nB nC nO) 5 (nS + 1)) nS = x_n (nS + 1) nB nC nO := by
  funext k
  simp only [fn_X5_init, x_set]
  by_cases h1 : k = 17
  · subst h1; rfl
  by_cases h2 : k = 16
  · subst h2; rfl
  by_cases h3 : k = 15
  · subst h3; rfl
  by_cases h4 : k = 5
  · subst h4; rfl
  simp only [h1, h2, h3, h4, if_false]
  unfold x_n
  split <;> simp_all
theorem x_shS {nS nB nC nO : Nat} : x_set (fs_X5_init (x_s nS nB nC nO nS nC) nS) 20 (nS + 1) = x_s (nS + 1) nB nC nO (nS + 1) nC := by
  funext k
  simp only [fs_X5_init, x_set]
  by_cases h0 : k = 20
  · subst h0; rfl
  by_cases h1 : k = 117
  · subst h1; rfl
  by_cases h2 : k = 116
  · subst h2; rfl
  by_cases h3 : k = 115
  · subst h3; rfl
  simp only [h0, h1, h2, h3, if_false]
  unfold x_s
  split <;> simp_all
/-- a shell that is refused: its names are forgotten -/
theorem x_shF {D : va_G} {cs : Nat → ClassId} {base : Nat} {ad : Nat → Nat → Nat} {σ : x_St} {s : State} {H : Heap} {locs : List Loc} {nS nB nC nO : Nat} (hw : x_B D cs base ad (fn_X5_init (x_set (x_n nS nB nC nO) 5 (nS + 1)) nS) (fs_X5_init (x_s nS nB nC nO nS nC) nS) σ s H locs) : x_B D cs base ad (x_n nS nB nC nO) (x_s nS nB nC nO nS nC) σ s H locs := by
  refine hw.re (fun a b h => x_mono (x_mono (x_mono (x_mono h (Nat.le_succ _)) (Nat.le_succ _)) (Nat.le_succ _)) (Nat.le_succ _)) (fun _ _ _ => rfl) (fun a b hb => x_E_eq (fun _ => rfl) (fun d q hq => ⟨?_, fun _ => rfl⟩) (fun h3 j => ⟨?_, fun _ => rfl⟩))
  · have h5 : ∀ q', q = q' → (q' = 15 ∨ q' = 16 ∨ q' = 17) → b < nS := by
      intro q' e1 e2
      subst e1
      have hw2 := x_ow_of hq
      have ha : a = 5 := by rcases e2 with rfl | rfl | rfl <;> exact (congrArg Prod.fst hw2).symm
      subst ha
      exact hb
    simp only [fs_X5_init, x_set]
    by_cases h1 : 100 + q = 117
    · have := h5 q rfl (by omega)
      rw [if_pos h1, h1]
      show b < nS ↔ b < nS + 1
      omega
    rw [if_neg h1]
    by_cases h2 : 100 + q = 116
    · have := h5 q rfl (by omega)
      rw [if_pos h2, h2]
      show b < nS ↔ b < nS + 1
      omega
    rw [if_neg h2]
    by_cases h4 : 100 + q = 115
    · have := h5 q rfl (by omega)
      rw [if_pos h4, h4]
      show b < nS ↔ b < nS + 1
      omega
    rw [if_neg h4]
  · have : a < 100 := by
      rcases Nat.lt_or_ge a 100 with q | q
      · exact q
      · exfalso
        unfold x_kd at h3
        split at h3 <;> omega
    simp only [fs_X5_init, x_set]
    rw [if_neg (by omega), if_neg (by omega), if_neg (by omega)]
/-- X6_shell -/
def q_X6_shell (ad : Nat → Nat → Nat) (n : Nat → Nat) (σ : x_St) (a b d e0 e1 e2 e3 e4 e5 : Int32) (nS : Nat) : Int32 → ((Nat → Nat → Nat) × Nat × x_St) → Prop := fun r u => (∀ a b, b < n a → u.1 a b = ad a b) ∧ ((nS < 30 ∧ (1 ≤ a ∧ a ≤ 6) ∧ (1 ≤ b ∧ b ≤ 6) ∧ 0 ≤ d ∧ d ≤ 9) → if (f_sh σ a b d e0 e1 e2 e3 e4 e5 nS).1 = true then r = nI nS ∧ u.2.1 = nS + 1 ∧ u.2.2 = x_up (f_sh σ a b d e0 e1 e2 e3 e4 e5 nS).2 6 0 1 (nI (nS + 1)) else r = -1 ∧ u.2.1 = nS ∧ u.2.2 = (f_sh σ a b d e0 e1 e2 e3 e4 e5 nS).2) ∧ (¬ (nS < 30 ∧ (1 ≤ a ∧ a ≤ 6) ∧ (1 ≤ b ∧ b ≤ 6) ∧ 0 ≤ d ∧ d ≤ 9) → r = -1 ∧ u.2.1 = nS ∧ u.2.2 = σ)
set_option maxHeartbeats 4000000 in
set_option maxRecDepth 100000 in
theorem c_X6_shell {l : Launch} {D : va_G} {cs : Nat → ClassId} {base : Nat} {ad : Nat → Nat → Nat} {nS nB nC nO : Nat} {σ : x_St} (a b d e0 e1 e2 e3 e4 e5 : Int32) (hS : σ 6 0 1 = nI nS) (hS0 : nS ≤ 30) : x_Ci l yX6_shell cX6_shell 11 (some .int) 2 4 118 D cs base ad (x_n nS nB nC nO) (x_s nS nB nC nO nS nC) σ [.ref (ad 6 0), .int a, .int b, .int d, .int e0, .int e1, .int e2, .int e3, .int e4, .int e5] (q_X6_shell ad (x_n nS nB nC nO) σ a b d e0 e1 e2 e3 e4 e5 nS) (fun u => x_U D cs base u.1 (x_n u.2.1 nB nC nO) (x_s u.2.1 nB nC nO u.2.1 nC) u.2.2) := by
  refine Met.ofW (cc := cX6_shell) (maxL := 11) (ret := some .int) (by decide) rfl ?_
  intro p e s m args below meth c s₁ B hml hv
  obtain ⟨rfl, hU⟩ := hv
  have hx := B.exec
  have hb := B.bytes
  have hr := B.returns
  have hts := atoms_spec (ws := Cond.code yX6_shell cX6_shell 11 (some .int) :: Tw) B.pre
  have hown : s.vm.findClass RX6 = some m.cls := findClass_of_methodNamed B.named
  have hlocks := B.notSynchronized
  have hc : CallFix p m c cX6_shell 11 s (([.ref (ad 6 0), .int a, .int b, .int d, .int e0, .int e1, .int e2, .int e3, .int e4, .int e5] : List Value).toArray) Tw RX6 := ⟨hx, hb, hml, hown, fun w hw => hts w (List.mem_cons_of_mem _ hw)⟩
  have hw := x_B.start hU
  have hl := lv_entry ([.ref (ad 6 0), .int a, .int b, .int d, .int e0, .int e1, .int e2, .int e3, .int e4, .int e5]) (n := 11) (Nat.le_of_ble_eq_true rfl)
  rw [lg_entry_eq]
  generalize (lg_sl ([.ref (ad 6 0), .int a, .int b, .int d, .int e0, .int e1, .int e2, .int e3, .int e4, .int e5]) ++ List.replicate (11 - (lg_sl ([.ref (ad 6 0), .int a, .int b, .int d, .int e0, .int e1, .int e2, .int e3, .int e4, .int e5])).length) Slot.unset).toArray = ls at hl ⊢
  have hl : lv_has ls 11 [(0, .ref (ad 6 0)), (1, .int a), (2, .int b), (3, .int d), (4, .int e0), (5, .int e1), (6, .int e2), (7, .int e3), (8, .int e4), (9, .int e5)] := hl
  generalize ([.ref (ad 6 0), .int a, .int b, .int d, .int e0, .int e1, .int e2, .int e3, .int e4, .int e5] : List Value).toArray = args at hc ⊢
  show W p l e (x_rm 2 4 118) s m args below meth c s.heap [] 0 0 (MQ below (va_Qi (q_X6_shell ad (x_n nS nB nC nO) σ a b d e0 e1 e2 e3 e4 e5 nS) (fun u => x_U D cs base u.1 (x_n u.2.1 nB nC nO) (x_s u.2.1 nB nC nO u.2.1 nC) u.2.2) (x_A base)) args s 4 118 (x_A base)) (F0 m 0 ls [])
  have cut_39 : (¬ (nS < 30 ∧ (1 ≤ a ∧ a ≤ 6) ∧ (1 ≤ b ∧ b ≤ 6) ∧ 0 ≤ d ∧ d ≤ 9)) → ∀ (H : Heap) (locs : List Loc) (ls : Array Slot), lv_has ls 11 [(0, .ref (ad 6 0))] → x_B D cs base ad (x_n nS nB nC nO) (x_s nS nB nC nO nS nC) σ s H locs → W p l e (x_rm 2 4 118) s m args below meth c H locs 0 0 (MQ below (va_Qi (q_X6_shell ad (x_n nS nB nC nO) σ a b d e0 e1 e2 e3 e4 e5 nS) (fun u => x_U D cs base u.1 (x_n u.2.1 nB nC nO) (x_s u.2.1 nB nC nO u.2.1 nC) u.2.2) (x_A base)) args s 4 118 (x_A base)) (F0 m 39 ls []) := by
    intro  hbad H locs ls hl hw
    refine lv_iconst (v := (-1)) hx hb dX6_shell_39 (by decide) ?_
    exact xr_i (u := (ad, nS, σ)) hc hlocks hr rfl hw (⟨fun _ _ _ => rfl, fun q => absurd q hbad, fun _ => ⟨rfl, rfl, rfl⟩⟩) (Nat.le_of_ble_eq_true rfl) (Nat.le_of_ble_eq_true rfl) dX6_shell_40
  refine lv_aload_n hx hb dX6_shell_0 rfl (lv_at hl 0 rfl) ?_
  refine xg_i hc hw 6 0 1 rfl rfl rfl rfl (by decide) (Nat.zero_lt_one) mw_80 dX6_shell_1 ?_
  refine lv_bipush (v := 30) hx hb dX6_shell_4 (by decide) ?_
  refine lv_icmp_ge (tgt := 39) hx hb dX6_shell_6 (by decide) (fun c_6 => ?_) (fun c_6 => ?_)
  · exact cut_39 (fun q => by have h30 := x_ge hS (b := 30) rfl (by omega) (by decide) c_6; omega) _ _ _ (lv_sub hl [0] rfl) hw
  · refine lv_iload_n hx hb dX6_shell_9 rfl (lv_at hl 1 rfl) ?_
    refine lv_iconst (v := 1) hx hb dX6_shell_10 (by decide) ?_
    refine lv_bipush (v := 6) hx hb dX6_shell_11 (by decide) ?_
    refine xc_Si hc hw (c_X6_isWithin a 1 6) mw_128 mw_126 mw_1 mw_127 xd_X6_isWithin ⟨by decide, by decide⟩ (rfl) hl.1 (Nat.le_of_ble_eq_true rfl) dX6_shell_13 ⟨Nat.le_of_ble_eq_true rfl, Nat.le_of_ble_eq_true rfl⟩ (fun r_13 σ_13 H locs hq hw => ?_)
    obtain ⟨hσ_13, hr_13⟩ := hq
    rw [hσ_13] at hw
    refine lv_if_eq (tgt := 39) hx hb dX6_shell_16 (by decide) (fun c_16 => ?_) (fun c_16 => ?_)
    · exact cut_39 (fun q => x_if0 hr_13 c_16 q.2.1) _ _ _ (lv_sub hl [0] rfl) hw
    · refine lv_iload_n hx hb dX6_shell_19 rfl (lv_at hl 2 rfl) ?_
      refine lv_iconst (v := 1) hx hb dX6_shell_20 (by decide) ?_
      refine lv_bipush (v := 6) hx hb dX6_shell_21 (by decide) ?_
      refine xc_Si hc hw (c_X6_isWithin b 1 6) mw_128 mw_126 mw_1 mw_127 xd_X6_isWithin ⟨by decide, by decide⟩ (rfl) hl.1 (Nat.le_of_ble_eq_true rfl) dX6_shell_23 ⟨Nat.le_of_ble_eq_true rfl, Nat.le_of_ble_eq_true rfl⟩ (fun r_23 σ_23 H locs hq hw => ?_)
      obtain ⟨hσ_23, hr_23⟩ := hq
      rw [hσ_23] at hw
      refine lv_if_eq (tgt := 39) hx hb dX6_shell_26 (by decide) (fun c_26 => ?_) (fun c_26 => ?_)
      · exact cut_39 (fun q => x_if0 hr_23 c_26 q.2.2.1) _ _ _ (lv_sub hl [0] rfl) hw
      · refine lv_iload_n hx hb dX6_shell_29 rfl (lv_at hl 3 rfl) ?_
        refine lv_iconst (v := 0) hx hb dX6_shell_30 (by decide) ?_
        refine lv_bipush (v := 9) hx hb dX6_shell_31 (by decide) ?_
        refine xc_Si hc hw (c_X6_isWithin d 0 9) mw_128 mw_126 mw_1 mw_127 xd_X6_isWithin ⟨by decide, by decide⟩ (rfl) hl.1 (Nat.le_of_ble_eq_true rfl) dX6_shell_33 ⟨Nat.le_of_ble_eq_true rfl, Nat.le_of_ble_eq_true rfl⟩ (fun r_33 σ_33 H locs hq hw => ?_)
        obtain ⟨hσ_33, hr_33⟩ := hq
        rw [hσ_33] at hw
        refine lv_if_ne (tgt := 41) hx hb dX6_shell_36 (by decide) (fun c_36 => ?_) (fun c_36 => ?_)
        · have hV : (nS < 30 ∧ (1 ≤ a ∧ a ≤ 6) ∧ (1 ≤ b ∧ b ≤ 6) ∧ 0 ≤ d ∧ d ≤ 9) := ⟨x_nge hS (b := 30) rfl (by omega) (by decide) c_6, x_if1 hr_13 c_16, x_if1 hr_23 c_26, x_if1 hr_33 c_36⟩
          obtain ⟨ha1, ha2⟩ := x_ixle (Int32.le_trans (by decide) hV.2.1.1) hV.2.1.2 (N := 6) rfl (by decide)
          obtain ⟨hb1, hb2⟩ := x_ixle (Int32.le_trans (by decide) hV.2.2.1.1) hV.2.2.1.2 (N := 6) rfl (by decide)
          refine lv_aload_n hx hb dX6_shell_41 rfl (lv_at hl 0 rfl) ?_
          refine xg_r hc hw 6 0 11 rfl rfl rfl rfl (by decide) (Nat.zero_lt_one) (Nat.zero_lt_one) mw_90 dX6_shell_42 ?_
          refine lv_iconst (v := 0) hx hb dX6_shell_45 (by decide) ?_
          refine lv_iload hx hb dX6_shell_46 (lv_at hl 4 rfl) ?_
          refine xa_st hc hw 19 0 0 rfl (Nat.zero_lt_one) (rfl) (by decide) dX6_shell_48 (fun H locs hw => ?_)
          refine lv_aload_n hx hb dX6_shell_49 rfl (lv_at hl 0 rfl) ?_
          refine xg_r hc hw 6 0 11 rfl rfl rfl rfl (by decide) (Nat.zero_lt_one) (Nat.zero_lt_one) mw_90 dX6_shell_50 ?_
          refine lv_iconst (v := 1) hx hb dX6_shell_53 (by decide) ?_
          refine lv_iload hx hb dX6_shell_54 (lv_at hl 5 rfl) ?_
          refine xa_st hc hw 19 0 1 rfl (Nat.zero_lt_one) (rfl) (by decide) dX6_shell_56 (fun H locs hw => ?_)
          refine lv_aload_n hx hb dX6_shell_57 rfl (lv_at hl 0 rfl) ?_
          refine xg_r hc hw 6 0 11 rfl rfl rfl rfl (by decide) (Nat.zero_lt_one) (Nat.zero_lt_one) mw_90 dX6_shell_58 ?_
          refine lv_iconst (v := 2) hx hb dX6_shell_61 (by decide) ?_
          refine lv_iload hx hb dX6_shell_62 (lv_at hl 6 rfl) ?_
          refine xa_st hc hw 19 0 2 rfl (Nat.zero_lt_one) (rfl) (by decide) dX6_shell_64 (fun H locs hw => ?_)
          refine lv_aload_n hx hb dX6_shell_65 rfl (lv_at hl 0 rfl) ?_
          refine xg_r hc hw 6 0 11 rfl rfl rfl rfl (by decide) (Nat.zero_lt_one) (Nat.zero_lt_one) mw_90 dX6_shell_66 ?_
          refine lv_iconst (v := 3) hx hb dX6_shell_69 (by decide) ?_
          refine lv_iload hx hb dX6_shell_70 (lv_at hl 7 rfl) ?_
          refine xa_st hc hw 19 0 3 rfl (Nat.zero_lt_one) (rfl) (by decide) dX6_shell_72 (fun H locs hw => ?_)
          refine lv_aload_n hx hb dX6_shell_73 rfl (lv_at hl 0 rfl) ?_
          refine xg_r hc hw 6 0 11 rfl rfl rfl rfl (by decide) (Nat.zero_lt_one) (Nat.zero_lt_one) mw_90 dX6_shell_74 ?_
          refine lv_iconst (v := 4) hx hb dX6_shell_77 (by decide) ?_
          refine lv_iload hx hb dX6_shell_78 (lv_at hl 8 rfl) ?_
          refine xa_st hc hw 19 0 4 rfl (Nat.zero_lt_one) (rfl) (by decide) dX6_shell_80 (fun H locs hw => ?_)
          refine lv_aload_n hx hb dX6_shell_81 rfl (lv_at hl 0 rfl) ?_
          refine xg_r hc hw 6 0 11 rfl rfl rfl rfl (by decide) (Nat.zero_lt_one) (Nat.zero_lt_one) mw_90 dX6_shell_82 ?_
          refine lv_iconst (v := 5) hx hb dX6_shell_85 (by decide) ?_
          refine lv_iload hx hb dX6_shell_86 (lv_at hl 9 rfl) ?_
          refine xa_st hc hw 19 0 5 rfl (Nat.zero_lt_one) (rfl) (by decide) dX6_shell_88 (fun H locs hw => ?_)
          refine xn_obj hc hw 5 nS rfl rfl rfl (rfl) (Nat.zero_le _) (x_rk (fun _ => Nat.le_refl _) (by omega) (by omega) (by omega) (by omega)) (fun j q hq => by match j, hq with | 3, hq => cases hq; exact Nat.le_refl _ | 5, hq => cases hq; exact Nat.le_refl _ | 6, hq => cases hq; exact Nat.le_refl _) mw_24 mw_129 mw_5 (Nat.le_of_ble_eq_true rfl) (Nat.le_of_ble_eq_true rfl) dX6_shell_89 (fun ad_89 H hag_89 hw => ?_)
          have hl : lv_has ls 11 [(0, .ref (ad_89 6 0)), (1, .int a), (2, .int b), (3, .int d), (4, .int e0), (5, .int e1), (6, .int e2), (7, .int e3), (8, .int e4), (9, .int e5)] := by rw [hag_89 6 0 (fun z => absurd z.1 (by decide))]; exact hl
          refine lv_dup hx hb dX6_shell_92 rfl ?_
          refine lv_iload_n hx hb dX6_shell_93 rfl (lv_at hl 1 rfl) ?_
          refine lv_iload_n hx hb dX6_shell_94 rfl (lv_at hl 2 rfl) ?_
          refine lv_iload_n hx hb dX6_shell_95 rfl (lv_at hl 3 rfl) ?_
          refine xc_Iv hc hw (c_X5_init nS a b d (Nat.lt_succ_self nS) (rfl) (rfl) (rfl) (rfl) (rfl) (rfl)) mw_132 mw_130 mw_5 mw_131 rfl xd_X5_init ⟨by decide, by decide⟩ (rfl) hl.1 (Nat.le_of_ble_eq_true rfl) dX6_shell_96 ⟨Nat.le_of_ble_eq_true rfl, Nat.le_of_ble_eq_true rfl⟩ (fun ad_96 H locs hag_96 hw => ?_)
          have hl : lv_has ls 11 [(0, .ref (ad_96 6 0)), (1, .int a), (2, .int b), (3, .int d), (4, .int e0), (5, .int e1), (6, .int e2), (7, .int e3), (8, .int e4), (9, .int e5)] := by rw [hag_96 6 0 (Nat.zero_lt_one)]; exact hl
          rw [← hag_96 5 nS (Nat.lt_succ_self nS)]
          refine lv_astore (lv' := [(10, .ref (ad_96 5 nS)), (0, .ref (ad_96 6 0)), (1, .int a), (2, .int b), (3, .int d), (4, .int e0), (5, .int e1), (6, .int e2), (7, .int e3), (8, .int e4), (9, .int e5)]) hx hb dX6_shell_99 hl (by decide) rfl (fun ls hl => ?_)
          refine lv_aload hx hb dX6_shell_101 (lv_at hl 0 rfl) ?_
          refine lv_aload_n hx hb dX6_shell_103 rfl (lv_at hl 1 rfl) ?_
          refine xg_r hc hw 6 0 11 rfl rfl rfl rfl (by decide) (Nat.zero_lt_one) (Nat.zero_lt_one) mw_90 dX6_shell_104 ?_
          refine xc_Vi hc hw 5 nS (c_X5_takesSquares nS (x_c a) (x_c b) (Nat.lt_succ_self nS) (Nat.lt_succ_self nS) (Nat.lt_succ_self nS) Nat.zero_lt_one (by rw [show f_X5_init _ nS a b d 5 nS 0 = a by simp [f_X5_init, x_up]]; exact ha1) ha2 (by rw [show f_X5_init _ nS a b d 5 nS 1 = b by simp [f_X5_init, x_up]]; exact hb1) hb2) rfl rfl (Nat.lt_succ_self nS) mw_183 mw_180 mw_5 mw_181 mw_182 xd_X5_takesSquares ⟨by decide, by decide⟩ (rfl) hl.1 (Nat.le_of_ble_eq_true rfl) dX6_shell_107 ⟨Nat.le_of_ble_eq_true rfl, Nat.le_of_ble_eq_true rfl⟩ (fun r_107 σ_107 H locs hq hw => ?_)
          have hq_107 := hq
          replace hq_107 : r_107 = (if (f_sh σ a b d e0 e1 e2 e3 e4 e5 nS).1 = true then 1 else 0) ∧ σ_107 = (f_sh σ a b d e0 e1 e2 e3 e4 e5 nS).2 := hq_107
          rw [hq_107.2] at hw
          refine lv_if_ne (tgt := 115) hx hb dX6_shell_110 (by decide) (fun c_110 => ?_) (fun c_110 => ?_)
          · refine lv_aload_n hx hb dX6_shell_115 rfl (lv_at hl 1 rfl) ?_
            refine xg_r hc hw 6 0 0 rfl rfl rfl rfl (by decide) (Nat.zero_lt_one) (Nat.zero_lt_one) mw_79 dX6_shell_116 ?_
            refine lv_aload_n hx hb dX6_shell_119 rfl (lv_at hl 1 rfl) ?_
            refine xg_i hc hw 6 0 1 rfl rfl rfl rfl (by decide) (Nat.zero_lt_one) mw_80 dX6_shell_120 ?_
            refine lv_aload hx hb dX6_shell_123 (lv_at hl 0 rfl) ?_
            have hjs_125 : nS = (fs_X5_init (x_s nS nB nC nO nS nC) nS) 20 := by first | rfl | exact rfl
            refine xa_rst (st' := x_set (fs_X5_init (x_s nS nB nC nO nS nC) nS) 20 (nS + 1)) hc hw 20 0 rfl (Nat.zero_lt_one) (rfl) (f_sh_c hS) hjs_125 (hV.1) (Nat.lt_succ_self nS) (fun a => by rw [← hjs_125]; rfl) dX6_shell_125 (fun H locs hw => ?_)
            rw [x_shN, x_shS] at hw
            refine lv_aload_n hx hb dX6_shell_126 rfl (lv_at hl 1 rfl) ?_
            refine lv_dup hx hb dX6_shell_127 rfl ?_
            refine xg_i hc hw 6 0 1 rfl rfl rfl rfl (by decide) (Nat.zero_lt_one) mw_80 dX6_shell_128 ?_
            refine lv_iconst (v := 1) hx hb dX6_shell_131 (by decide) ?_
            refine lv_iadd hx hb dX6_shell_132 ?_
            refine xp_i hc hw 6 0 1 rfl rfl rfl rfl (by decide) (Nat.zero_lt_one) rfl (ty := .int) (by decide +kernel) rfl rfl mw_80 dX6_shell_133 (fun H locs hw => ?_)
            rw [f_sh_c hS, nI_1] at hw
            refine lv_aload_n hx hb dX6_shell_136 rfl (lv_at hl 1 rfl) ?_
            refine xg_i hc hw 6 0 1 rfl rfl rfl rfl (by decide) (Nat.zero_lt_one) mw_80 dX6_shell_137 ?_
            refine lv_iconst (v := 1) hx hb dX6_shell_140 (by decide) ?_
            refine lv_isub hx hb dX6_shell_141 ?_
            exact xr_i (u := (ad_96, nS + 1, x_up (f_sh σ a b d e0 e1 e2 e3 e4 e5 nS).2 6 0 1 (nI (nS + 1)))) hc hlocks hr rfl hw (⟨fun a b hb => (Eq.trans (hag_96 a b ((x_mono hb (Nat.le_trans (Nat.le_of_eq (rfl)) (Nat.le_succ _))))) (x_ag hag_89 (Nat.le_refl _) hb)), fun _ => by rw [if_pos (Decidable.byContradiction fun q => by rw [if_neg q] at hq_107; exact c_110 hq_107.1)]; exact ⟨by rw [x_up_s, ← nI_1]; exact x_p1 nS, rfl, rfl⟩, fun q => absurd hV q⟩) (Nat.le_of_ble_eq_true rfl) (Nat.le_of_ble_eq_true rfl) dX6_shell_142
          · replace hw := x_shF hw
            refine lv_iconst (v := (-1)) hx hb dX6_shell_113 (by decide) ?_
            exact xr_i (u := (ad_96, nS, (f_sh σ a b d e0 e1 e2 e3 e4 e5 nS).2)) hc hlocks hr rfl hw (⟨fun a b hb => (Eq.trans (hag_96 a b ((x_mono hb (Nat.le_trans (Nat.le_of_eq (rfl)) (Nat.le_succ _))))) (x_ag hag_89 (Nat.le_refl _) hb)), fun _ => by rw [if_neg (fun q => by rw [if_pos q] at hq_107; exact absurd hq_107.1 (by rw [c_110]; decide))]; exact ⟨rfl, rfl, rfl⟩, fun q => absurd hV q⟩) (Nat.le_of_ble_eq_true rfl) (Nat.le_of_ble_eq_true rfl) dX6_shell_114
        · exact cut_39 (fun q => x_if0 hr_33 c_36 q.2.2.2) _ _ _ (lv_sub hl [0] rfl) hw
