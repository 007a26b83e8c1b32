def f_or (σ : x_St) (a b d f g h k : Int32) (nO : Nat) : x_St := f_qb nO nO (f_X4_init (x_zr σ 4 nO) nO a b d f g h k)
theorem f_qb_k (num : Nat) : ∀ (t : Nat) (σ : x_St) (k j q : Nat), k ≠ 18 → f_qb num t σ k j q = σ k j q
  | 0, _, _, _, _, h => x_up_n (fun z => h z.1)
  | t + 1, σ, k, j, q, h => by
    rw [f_qb]
    split
    · rw [f_qb_k num t _ k j q h, x_up_n (fun z => h z.1)]
    · rw [x_up_n (fun z => h z.1)]
theorem f_or_c {σ : x_St} {a b d f g h k : Int32} {nO : Nat} {v : Int32} (h9 : σ 6 0 8 = v) : f_or σ a b d f g h k nO 6 0 8 = v := by
  unfold f_or
  rw [f_qb_k _ _ _ 6 0 8 (by decide)]
  simpa [f_X4_init, x_up, x_zr] using h9
theorem x_orN {nS nB nC nO : Nat} : x_set (x_n nS nB nC nO) 4 (nO + 1) = x_n nS nB nC (nO + 1) := by
  funext k
  simp only [x_set]
  by_cases h1 : k = 4
  · subst h1; rfl
  simp only [h1, if_false]
  unfold x_n
  split <;> simp_all
theorem x_orS {nS nB nC nO : Nat} : x_set (x_s nS nB nC nO nS nC) 24 (nO + 1) = x_s nS nB nC (nO + 1) nS nC := by
  funext k
  simp only [x_set]
  by_cases h1 : k = 24
  · subst h1; rfl
  simp only [h1, if_false]
  unfold x_s
  split <;> simp_all
/-- X6_order -/
def q_X6_order (ad : Nat → Nat → Nat) (n : Nat → Nat) (σ : x_St) (a b d f g h k : Int32) (nO : Nat) : Int32 → ((Nat → Nat → Nat) × Nat × x_St) → Prop := fun r u => (∀ a b, b < n a → u.1 a b = ad a b) ∧ ((nO < 30 ∧ (1 ≤ a ∧ a ≤ 9) ∧ (1 ≤ b ∧ b ≤ 3) ∧ (d = 2 ∨ d = 4) ∧ (0 ≤ f ∧ f ≤ 9) ∧ (f ≤ g ∧ g ≤ 9) ∧ (0 ≤ h ∧ h ≤ 999) ∧ 0 ≤ k ∧ k ≤ 999) → r = nI nO ∧ u.2.1 = nO + 1 ∧ u.2.2 = x_up (f_or σ a b d f g h k nO) 6 0 8 (nI (nO + 1))) ∧ (¬ (nO < 30 ∧ (1 ≤ a ∧ a ≤ 9) ∧ (1 ≤ b ∧ b ≤ 3) ∧ (d = 2 ∨ d = 4) ∧ (0 ≤ f ∧ f ≤ 9) ∧ (f ≤ g ∧ g ≤ 9) ∧ (0 ≤ h ∧ h ≤ 999) ∧ 0 ≤ k ∧ k ≤ 999) → r = -1 ∧ u.2.1 = nO ∧ u.2.2 = σ)
set_option maxHeartbeats 4000000 in
set_option maxRecDepth 100000 in
theorem c_X6_order {l : Launch} {D : va_G} {cs : Nat → ClassId} {base : Nat} {ad : Nat → Nat → Nat} {nS nB nC nO : Nat} {σ : x_St} (a b d f g h k : Int32) (hO : σ 6 0 8 = nI nO) (hO0 : nO ≤ 30) (hbd : ∀ q, q < nO → σ 18 0 q = nI (x_c (σ 18 0 q)) ∧ x_c (σ 18 0 q) < nO) : x_Ci l yX6_order cX6_order 8 (some .int) 4 1 8 D cs base ad (x_n nS nB nC nO) (x_s nS nB nC nO nS nC) σ [.ref (ad 6 0), .int a, .int b, .int d, .int f, .int g, .int h, .int k] (q_X6_order ad (x_n nS nB nC nO) σ a b d f g h k nO) (fun u => x_U D cs base u.1 (x_n nS nB nC u.2.1) (x_s nS nB nC u.2.1 nS nC) u.2.2) := by
  refine Met.ofW (cc := cX6_order) (maxL := 8) (ret := some .int) (by decide) rfl ?_
  intro p e s m args below meth c s₁ B hml hv
  obtain ⟨rfl, hU⟩ := hv
  have hx := B.exec
  have hb := B.bytes
  have hr := B.returns
  have hts := atoms_spec (ws := Cond.code yX6_order cX6_order 8 (some .int) :: Tw) B.pre
  have hown : s.vm.findClass RX6 = some m.cls := findClass_of_methodNamed B.named
  have hlocks := B.notSynchronized
  have hc : CallFix p m c cX6_order 8 s (([.ref (ad 6 0), .int a, .int b, .int d, .int f, .int g, .int h, .int k] : List Value).toArray) Tw RX6 := ⟨hx, hb, hml, hown, fun w hw => hts w (List.mem_cons_of_mem _ hw)⟩
  have hw := x_B.start hU
  have hl := lv_entry ([.ref (ad 6 0), .int a, .int b, .int d, .int f, .int g, .int h, .int k]) (n := 8) (Nat.le_of_ble_eq_true rfl)
  rw [lg_entry_eq]
  generalize (lg_sl ([.ref (ad 6 0), .int a, .int b, .int d, .int f, .int g, .int h, .int k]) ++ List.replicate (8 - (lg_sl ([.ref (ad 6 0), .int a, .int b, .int d, .int f, .int g, .int h, .int k])).length) Slot.unset).toArray = ls at hl ⊢
  have hl : lv_has ls 8 [(0, .ref (ad 6 0)), (1, .int a), (2, .int b), (3, .int d), (4, .int f), (5, .int g), (6, .int h), (7, .int k)] := hl
  generalize ([.ref (ad 6 0), .int a, .int b, .int d, .int f, .int g, .int h, .int k] : List Value).toArray = args at hc ⊢
  show W p l e (x_rm 4 1 8) s m args below meth c s.heap [] 0 0 (MQ below (va_Qi (q_X6_order ad (x_n nS nB nC nO) σ a b d f g h k nO) (fun u => x_U D cs base u.1 (x_n nS nB nC u.2.1) (x_s nS nB nC u.2.1 nS nC) u.2.2) (x_A base)) args s 1 8 (x_A base)) (F0 m 0 ls [])
  have cut_80 : (¬ (nO < 30 ∧ (1 ≤ a ∧ a ≤ 9) ∧ (1 ≤ b ∧ b ≤ 3) ∧ (d = 2 ∨ d = 4) ∧ (0 ≤ f ∧ f ≤ 9) ∧ (f ≤ g ∧ g ≤ 9) ∧ (0 ≤ h ∧ h ≤ 999) ∧ 0 ≤ k ∧ k ≤ 999)) → ∀ (H : Heap) (locs : List Loc) (ls : Array Slot), lv_has ls 8 [(0, .ref (ad 6 0))] → x_B D cs base ad (x_n nS nB nC nO) (x_s nS nB nC nO nS nC) σ s H locs → W p l e (x_rm 4 1 8) s m args below meth c H locs 0 0 (MQ below (va_Qi (q_X6_order ad (x_n nS nB nC nO) σ a b d f g h k nO) (fun u => x_U D cs base u.1 (x_n nS nB nC u.2.1) (x_s nS nB nC u.2.1 nS nC) u.2.2) (x_A base)) args s 1 8 (x_A base)) (F0 m 80 ls []) := by
    intro  hbad H locs ls hl hw
    refine lv_iconst (v := (-1)) hx hb dX6_order_80 (by decide) ?_
    exact xr_i (u := (ad, nO, σ)) hc hlocks hr rfl hw (⟨fun _ _ _ => rfl, fun q => absurd q hbad, fun _ => ⟨rfl, rfl, rfl⟩⟩) (Nat.le_of_ble_eq_true rfl) (Nat.le_of_ble_eq_true rfl) dX6_order_81
  refine lv_aload_n hx hb dX6_order_0 rfl (lv_at hl 0 rfl) ?_
  refine xg_i hc hw 6 0 8 rfl rfl rfl rfl (by decide) (Nat.zero_lt_one) mw_87 dX6_order_1 ?_
  refine lv_bipush (v := 30) hx hb dX6_order_4 (by decide) ?_
  refine lv_icmp_ge (tgt := 80) hx hb dX6_order_6 (by decide) (fun c_6 => ?_) (fun c_6 => ?_)
  · exact cut_80 (fun q => by have h30 := x_ge hO (b := 30) rfl (by omega) (by decide) c_6; omega) _ _ _ (lv_sub hl [0] rfl) hw
  · refine lv_iload_n hx hb dX6_order_9 rfl (lv_at hl 1 rfl) ?_
    refine lv_iconst (v := 1) hx hb dX6_order_10 (by decide) ?_
    refine lv_bipush (v := 9) hx hb dX6_order_11 (by decide) ?_
    refine xc_Si hc hw (c_X6_isWithin a 1 9) mw_128 mw_126 mw_1 mw_127 xd_X6_isWithin ⟨by decide, by decide⟩ (rfl) hl.1 (Nat.le_of_ble_eq_true rfl) dX6_order_13 ⟨Nat.le_of_ble_eq_true rfl, Nat.le_of_ble_eq_true rfl⟩ (fun r_13 σ_13 H locs hq hw => ?_)
    obtain ⟨hσ_13, hr_13⟩ := hq
    rw [hσ_13] at hw
    refine lv_if_eq (tgt := 80) hx hb dX6_order_16 (by decide) (fun c_16 => ?_) (fun c_16 => ?_)
    · exact cut_80 (fun q => x_if0 hr_13 c_16 q.2.1) _ _ _ (lv_sub hl [0] rfl) hw
    · refine lv_iload_n hx hb dX6_order_19 rfl (lv_at hl 2 rfl) ?_
      refine xc_Si hc hw (c_X6_isSize b) mw_190 mw_188 mw_1 mw_189 xd_X6_isSize ⟨by decide, by decide⟩ (rfl) hl.1 (Nat.le_of_ble_eq_true rfl) dX6_order_20 ⟨Nat.le_of_ble_eq_true rfl, Nat.le_of_ble_eq_true rfl⟩ (fun r_20 σ_20 H locs hq hw => ?_)
      obtain ⟨hσ_20, hr_20⟩ := hq
      rw [hσ_20] at hw
      refine lv_if_eq (tgt := 80) hx hb dX6_order_23 (by decide) (fun c_23 => ?_) (fun c_23 => ?_)
      · exact cut_80 (fun q => x_if0 hr_20 c_23 q.2.2.1) _ _ _ (lv_sub hl [0] rfl) hw
      · refine lv_iload_n hx hb dX6_order_26 rfl (lv_at hl 3 rfl) ?_
        refine xc_Si hc hw (c_X6_isHoles d) mw_193 mw_191 mw_1 mw_192 xd_X6_isHoles ⟨by decide, by decide⟩ (rfl) hl.1 (Nat.le_of_ble_eq_true rfl) dX6_order_27 ⟨Nat.le_of_ble_eq_true rfl, Nat.le_of_ble_eq_true rfl⟩ (fun r_27 σ_27 H locs hq hw => ?_)
        obtain ⟨hσ_27, hr_27⟩ := hq
        rw [hσ_27] at hw
        refine lv_if_eq (tgt := 80) hx hb dX6_order_30 (by decide) (fun c_30 => ?_) (fun c_30 => ?_)
        · exact cut_80 (fun q => x_if0 hr_27 c_30 q.2.2.2.1) _ _ _ (lv_sub hl [0] rfl) hw
        · refine lv_iload hx hb dX6_order_33 (lv_at hl 4 rfl) ?_
          refine lv_iconst (v := 0) hx hb dX6_order_35 (by decide) ?_
          refine lv_bipush (v := 9) hx hb dX6_order_36 (by decide) ?_
          refine xc_Si hc hw (c_X6_isWithin f 0 9) mw_128 mw_126 mw_1 mw_127 xd_X6_isWithin ⟨by decide, by decide⟩ (rfl) hl.1 (Nat.le_of_ble_eq_true rfl) dX6_order_38 ⟨Nat.le_of_ble_eq_true rfl, Nat.le_of_ble_eq_true rfl⟩ (fun r_38 σ_38 H locs hq hw => ?_)
          obtain ⟨hσ_38, hr_38⟩ := hq
          rw [hσ_38] at hw
          refine lv_if_eq (tgt := 80) hx hb dX6_order_41 (by decide) (fun c_41 => ?_) (fun c_41 => ?_)
          · exact cut_80 (fun q => x_if0 hr_38 c_41 q.2.2.2.2.1) _ _ _ (lv_sub hl [0] rfl) hw
          · refine lv_iload hx hb dX6_order_44 (lv_at hl 5 rfl) ?_
            refine lv_iload hx hb dX6_order_46 (lv_at hl 4 rfl) ?_
            refine lv_bipush (v := 9) hx hb dX6_order_48 (by decide) ?_
            refine xc_Si hc hw (c_X6_isWithin g f 9) mw_128 mw_126 mw_1 mw_127 xd_X6_isWithin ⟨by decide, by decide⟩ (rfl) hl.1 (Nat.le_of_ble_eq_true rfl) dX6_order_50 ⟨Nat.le_of_ble_eq_true rfl, Nat.le_of_ble_eq_true rfl⟩ (fun r_50 σ_50 H locs hq hw => ?_)
            obtain ⟨hσ_50, hr_50⟩ := hq
            rw [hσ_50] at hw
            refine lv_if_eq (tgt := 80) hx hb dX6_order_53 (by decide) (fun c_53 => ?_) (fun c_53 => ?_)
            · exact cut_80 (fun q => x_if0 hr_50 c_53 q.2.2.2.2.2.1) _ _ _ (lv_sub hl [0] rfl) hw
            · refine lv_iload hx hb dX6_order_56 (lv_at hl 6 rfl) ?_
              refine lv_iconst (v := 0) hx hb dX6_order_58 (by decide) ?_
              refine lv_sipush (v := 999) hx hb dX6_order_59 (by decide) ?_
              refine xc_Si hc hw (c_X6_isWithin h 0 999) mw_128 mw_126 mw_1 mw_127 xd_X6_isWithin ⟨by decide, by decide⟩ (rfl) hl.1 (Nat.le_of_ble_eq_true rfl) dX6_order_62 ⟨Nat.le_of_ble_eq_true rfl, Nat.le_of_ble_eq_true rfl⟩ (fun r_62 σ_62 H locs hq hw => ?_)
              obtain ⟨hσ_62, hr_62⟩ := hq
              rw [hσ_62] at hw
              refine lv_if_eq (tgt := 80) hx hb dX6_order_65 (by decide) (fun c_65 => ?_) (fun c_65 => ?_)
              · exact cut_80 (fun q => x_if0 hr_62 c_65 q.2.2.2.2.2.2.1) _ _ _ (lv_sub hl [0] rfl) hw
              · refine lv_iload hx hb dX6_order_68 (lv_at hl 7 rfl) ?_
                refine lv_iconst (v := 0) hx hb dX6_order_70 (by decide) ?_
                refine lv_sipush (v := 999) hx hb dX6_order_71 (by decide) ?_
                refine xc_Si hc hw (c_X6_isWithin k 0 999) mw_128 mw_126 mw_1 mw_127 xd_X6_isWithin ⟨by decide, by decide⟩ (rfl) hl.1 (Nat.le_of_ble_eq_true rfl) dX6_order_74 ⟨Nat.le_of_ble_eq_true rfl, Nat.le_of_ble_eq_true rfl⟩ (fun r_74 σ_74 H locs hq hw => ?_)
                obtain ⟨hσ_74, hr_74⟩ := hq
                rw [hσ_74] at hw
                refine lv_if_ne (tgt := 82) hx hb dX6_order_77 (by decide) (fun c_77 => ?_) (fun c_77 => ?_)
                · have hV : (nO < 30 ∧ (1 ≤ a ∧ a ≤ 9) ∧ (1 ≤ b ∧ b ≤ 3) ∧ (d = 2 ∨ d = 4) ∧ (0 ≤ f ∧ f ≤ 9) ∧ (f ≤ g ∧ g ≤ 9) ∧ (0 ≤ h ∧ h ≤ 999) ∧ 0 ≤ k ∧ k ≤ 999) := ⟨x_nge hO (b := 30) rfl (by omega) (by decide) c_6, x_if1 hr_13 c_16, x_if1 hr_20 c_23, x_if1 hr_27 c_30, x_if1 hr_38 c_41, x_if1 hr_50 c_53, x_if1 hr_62 c_65, x_if1 hr_74 c_77⟩
                  refine lv_aload_n hx hb dX6_order_82 rfl (lv_at hl 0 rfl) ?_
                  refine xg_r hc hw 6 0 7 rfl rfl rfl rfl (by decide) (Nat.zero_lt_one) (Nat.zero_lt_one) mw_86 dX6_order_83 ?_
                  refine lv_aload_n hx hb dX6_order_86 rfl (lv_at hl 0 rfl) ?_
                  refine xg_i hc hw 6 0 8 rfl rfl rfl rfl (by decide) (Nat.zero_lt_one) mw_87 dX6_order_87 ?_
                  refine xn_obj hc hw 4 nO rfl rfl rfl (rfl) (Nat.zero_le _) (x_rk (by omega) (by omega) (by omega) (by omega) (fun _ => Nat.le_refl _)) (fun j q hq => by cases hq) mw_32 mw_194 mw_15 (Nat.le_of_ble_eq_true rfl) (Nat.le_of_ble_eq_true rfl) dX6_order_90 (fun ad_90 H hag_90 hw => ?_)
                  have hl : lv_has ls 8 [(0, .ref (ad_90 6 0)), (1, .int a), (2, .int b), (3, .int d), (4, .int f), (5, .int g), (6, .int h), (7, .int k)] := by rw [hag_90 6 0 (fun z => absurd z.1 (by decide))]; exact hl
                  rw [← hag_90 24 0 (fun z => absurd z.1 (by decide))]
                  refine lv_dup hx hb dX6_order_93 rfl ?_
                  refine lv_iload_n hx hb dX6_order_94 rfl (lv_at hl 1 rfl) ?_
                  refine lv_iload_n hx hb dX6_order_95 rfl (lv_at hl 2 rfl) ?_
                  refine lv_iload_n hx hb dX6_order_96 rfl (lv_at hl 3 rfl) ?_
                  refine lv_iload hx hb dX6_order_97 (lv_at hl 4 rfl) ?_
                  refine lv_iload hx hb dX6_order_99 (lv_at hl 5 rfl) ?_
                  refine lv_iload hx hb dX6_order_101 (lv_at hl 6 rfl) ?_
                  refine lv_iload hx hb dX6_order_103 (lv_at hl 7 rfl) ?_
                  refine xc_Iv hc hw (c_X4_init nO a b d f g h k (Nat.lt_succ_self nO)) mw_197 mw_195 mw_15 mw_196 rfl xd_X4_init ⟨by decide, by decide⟩ (rfl) hl.1 (Nat.le_of_ble_eq_true rfl) dX6_order_105 ⟨Nat.le_of_ble_eq_true rfl, Nat.le_of_ble_eq_true rfl⟩ (fun σ_105 H locs hag_105 hw => ?_)
                  have hq_105 := hag_105
                  replace hq_105 : _ = _ := hq_105
                  rw [hq_105] at hw
                  have hjs_108 : nO = (x_s nS nB nC nO nS nC) 24 := by first | rfl | exact rfl
                  refine xa_rst (st' := x_set (x_s nS nB nC nO nS nC) 24 (nO + 1)) hc hw 24 0 rfl (Nat.zero_lt_one) (rfl) (hO) hjs_108 (hV.1) (Nat.lt_succ_self nO) (fun a => by rw [← hjs_108]; rfl) dX6_order_108 (fun H locs hw => ?_)
                  rw [x_orN, x_orS] at hw
                  refine lv_aload_n hx hb dX6_order_109 rfl (lv_at hl 0 rfl) ?_
                  refine lv_aload_n hx hb dX6_order_110 rfl (lv_at hl 0 rfl) ?_
                  refine xg_i hc hw 6 0 8 rfl rfl rfl rfl (by decide) (Nat.zero_lt_one) mw_87 dX6_order_111 ?_
                  refine xc_Vv hc hw 6 0 (c_X6_queueByDay nO (Nat.lt_succ_self nO) hV.1 (fun q hq => by rw [show f_X4_init (x_zr σ 4 nO) nO a b d f g h k 18 0 q = σ 18 0 q by simp [f_X4_init, x_up, x_zr]]; exact ⟨(hbd q hq).1, Nat.lt_succ_of_lt (hbd q hq).2, Nat.lt_of_lt_of_le (hbd q hq).2 hO0⟩)) rfl rfl (Nat.zero_lt_one) mw_230 mw_227 mw_1 mw_229 mp_0 xd_X6_queueByDay ⟨by decide, by decide⟩ (by rw [show f_X4_init (x_zr σ 4 nO) nO a b d f g h k 6 0 8 = nI nO by simpa [f_X4_init, x_up, x_zr] using hO]; rfl) hl.1 (Nat.le_of_ble_eq_true rfl) dX6_order_114 ⟨Nat.le_of_ble_eq_true rfl, Nat.le_of_ble_eq_true rfl⟩ (fun σ_114 H locs hq hw => ?_)
                  have hq_114 := hq
                  have hσ_114 : σ_114 = (f_or σ a b d f g h k nO) := hq_114
                  rw [hσ_114] at hw
                  refine lv_aload_n hx hb dX6_order_117 rfl (lv_at hl 0 rfl) ?_
                  refine lv_dup hx hb dX6_order_118 rfl ?_
                  refine xg_i hc hw 6 0 8 rfl rfl rfl rfl (by decide) (Nat.zero_lt_one) mw_87 dX6_order_119 ?_
                  refine lv_iconst (v := 1) hx hb dX6_order_122 (by decide) ?_
                  refine lv_iadd hx hb dX6_order_123 ?_
                  refine xp_i hc hw 6 0 8 rfl rfl rfl rfl (by decide) (Nat.zero_lt_one) rfl (ty := .int) (by decide +kernel) rfl rfl mw_87 dX6_order_124 (fun H locs hw => ?_)
                  rw [f_or_c hO, nI_1] at hw
                  refine lv_aload_n hx hb dX6_order_127 rfl (lv_at hl 0 rfl) ?_
                  refine xg_i hc hw 6 0 8 rfl rfl rfl rfl (by decide) (Nat.zero_lt_one) mw_87 dX6_order_128 ?_
                  refine lv_iconst (v := 1) hx hb dX6_order_131 (by decide) ?_
                  refine lv_isub hx hb dX6_order_132 ?_
                  exact xr_i (u := (ad_90, nO + 1, x_up (f_or σ a b d f g h k nO) 6 0 8 (nI (nO + 1)))) hc hlocks hr rfl hw (⟨fun a b hb => (x_ag hag_90 (Nat.le_refl _) hb), fun _ => ⟨by rw [x_up_s, ← nI_1]; exact x_p1 nO, rfl, rfl⟩, fun q => absurd hV q⟩) (Nat.le_of_ble_eq_true rfl) (Nat.le_of_ble_eq_true rfl) dX6_order_133
                · exact cut_80 (fun q => x_if0 hr_74 c_77 q.2.2.2.2.2.2.2) _ _ _ (lv_sub hl [0] rfl) hw
