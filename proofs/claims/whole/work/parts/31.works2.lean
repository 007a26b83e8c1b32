theorem f_brk'_6 (σ : x_St) (i : Nat) (t : Int32) (j : Nat) : f_brk' σ i t 6 0 j = σ 6 0 j := by unfold f_brk'; split <;> simp [x_up]
theorem f_brk'_0 (σ : x_St) (i : Nat) (t : Int32) (q j : Nat) : f_brk' σ i t 0 q j = σ 0 q j := by unfold f_brk'; split <;> simp [x_up]
abbrev f_ok (σ : x_St) (mm i : Nat) (h : Int32) : Prop := if nI mm < 3 then σ 0 i 5 = 0 else σ 0 i 5 = 1 ∧ (h = 2 ∨ h = 4) ∧ (h = 2 ∨ 1 < σ 0 i 0)
def f_wk (σ : x_St) (mm i : Nat) (h : Int32) : Int32 × x_St :=
  if ¬ f_ok σ mm i h then (-1, σ) else
  if f_brk σ mm (σ 0 i 1) then (0, x_up (x_up (x_up (f_brk' σ mm (σ 0 i 1)) 0 i 5 3) 0 i 7 (nI mm)) 6 0 12 (σ 6 0 12 + 1)) else
  (1, if nI mm < 3 then x_up (f_brk' σ mm (σ 0 i 1)) 0 i 5 1 else x_up (x_up (f_brk' σ mm (σ 0 i 1)) 0 i 6 h) 0 i 5 2)
def f_ws (mm : Nat) (h : Int32) : Nat → Nat → x_St → Nat → Nat × x_St
  | 0, _, σ, c => (c, σ)
  | f + 1, k, σ, c => f_ws mm h f (k + 1) (f_wk σ mm k h).2 (c + if (f_wk σ mm k h).1 = 1 then 1 else 0)
theorem x_min {d : Int32} {nB : Nat} (hd : d = nI (x_c d)) (h1 : x_c d < 2 ^ 31) (h2 : nB < 2 ^ 31) : (if nI nB < d then nI nB else d) = nI (min (x_c d) nB) := by
  by_cases h : nB < x_c d
  · rw [if_pos (by rw [hd]; exact nI_lt h h1), Nat.min_eq_right (by omega)]
  · rw [if_neg (by rw [hd]; exact nI_nlt (by omega) (by omega)), Nat.min_eq_left (by omega), ← hd]
abbrev f_blc (σ : x_St) (k : Nat) (b : Int32) : Prop := ¬ (σ 0 k 5 = 3 ∨ σ 0 k 5 = 4) ∧ f_pal (σ 0 k 2) b ≠ σ 0 k 2
def f_bl (s h : Int32) : Nat → Nat → x_St → Nat → Nat × x_St
  | 0, _, σ, c => (c, σ)
  | f + 1, k, σ, c => if σ 0 k 3 = s then f_bl s h f (k + 1) (if σ 0 k 5 = 3 ∨ σ 0 k 5 = 4 then σ else x_up σ 0 k 2 (f_pal (σ 0 k 2) h)) (c + if f_blc σ k h then 1 else 0) else f_bl s h f (k + 1) σ c

/-- X6_workOn -/
def q_X6_workOn (σ : x_St) (mm i : Nat) (h : Int32) : Int32 → x_St → Prop := fun r σ' => r = (f_wk σ mm i h).1 ∧ σ' = (f_wk σ mm i h).2
set_option maxHeartbeats 4000000 in
set_option maxRecDepth 100000 in
theorem c_X6_workOn {l : Launch} {D : va_G} {cs : Nat → ClassId} {base : Nat} {ad : Nat → Nat → Nat} {nS nB nC nO : Nat} {σ : x_St} (mm i : Nat) (h : Int32) (hmm : mm < 6) (hi : i < nB) : x_Ci l yX6_workOn cX6_workOn 5 (some .int) 5 0 0 D cs base ad (x_n nS nB nC nO) (x_s nS nB nC nO nS nC) σ [.ref (ad 6 0), .int (nI mm), .ref (ad 0 i), .int h] (q_X6_workOn σ mm i h) (fun σ' => x_U D cs base ad (x_n nS nB nC nO) (x_s nS nB nC nO nS nC) σ') := by
  refine Met.ofW (cc := cX6_workOn) (maxL := 5) (ret := some .int) (by decide) rfl ?_
  intro p e s m args below meth c s₁ B hml hv
  obtain ⟨rfl, hU⟩ := hv
  have hx := B.exec
  have hb := B.bytes
  have hr := B.returns
  have hts := atoms_spec (ws := Cond.code yX6_workOn cX6_workOn 5 (some .int) :: Tw) B.pre
  have hown : s.vm.findClass RX6 = some m.cls := findClass_of_methodNamed B.named
  have hlocks := B.notSynchronized
  have hc : CallFix p m c cX6_workOn 5 s (([.ref (ad 6 0), .int (nI mm), .ref (ad 0 i), .int h] : List Value).toArray) Tw RX6 := ⟨hx, hb, hml, hown, fun w hw => hts w (List.mem_cons_of_mem _ hw)⟩
  have hw := x_B.start hU
  have hl := lv_entry ([.ref (ad 6 0), .int (nI mm), .ref (ad 0 i), .int h]) (n := 5) (Nat.le_of_ble_eq_true rfl)
  rw [lg_entry_eq]
  generalize (lg_sl ([.ref (ad 6 0), .int (nI mm), .ref (ad 0 i), .int h]) ++ List.replicate (5 - (lg_sl ([.ref (ad 6 0), .int (nI mm), .ref (ad 0 i), .int h])).length) Slot.unset).toArray = ls at hl ⊢
  have hl : lv_has ls 5 [(0, .ref (ad 6 0)), (1, .int (nI mm)), (2, .ref (ad 0 i)), (3, .int h)] := hl
  show W p l e (x_rm 5 0 0) s m ([.ref (ad 6 0), .int (nI mm), .ref (ad 0 i), .int h] : List Value).toArray below meth c s.heap [] 0 0 (MQ below (va_Qi (q_X6_workOn σ mm i h) (fun σ' => x_U D cs base ad (x_n nS nB nC nO) (x_s nS nB nC nO nS nC) σ') (x_A base)) ([.ref (ad 6 0), .int (nI mm), .ref (ad 0 i), .int h] : List Value).toArray s 0 0 (x_A base)) (F0 m 0 ls [])
  refine lv_iload_n hx hb dX6_workOn_0 rfl (lv_at hl 1 rfl) ?_
  refine lv_iconst (v := 3) hx hb dX6_workOn_1 (by decide) ?_
  refine lv_icmp_lt (tgt := 9) hx hb dX6_workOn_2 (by decide) (fun c_2 => ?_) (fun c_2 => ?_)
  · refine lv_iconst (v := 0) hx hb dX6_workOn_9 (by decide) ?_
    refine lv_istore (lv' := [(4, .int 0), (0, .ref (ad 6 0)), (1, .int (nI mm)), (2, .ref (ad 0 i)), (3, .int h)]) hx hb dX6_workOn_10 hl (by decide) rfl (fun ls hl => ?_)
    refine lv_iload hx hb dX6_workOn_12 (lv_at hl 0 rfl) ?_
    refine lv_if_eq (tgt := 28) hx hb dX6_workOn_14 (by decide) (fun c_14 => ?_) (fun c_14 => ?_)
    · refine lv_aload_n hx hb dX6_workOn_28 rfl (lv_at hl 3 rfl) ?_
      refine xg_i hc hw 0 i 5 rfl rfl rfl rfl (by decide) (hi) mw_434 dX6_workOn_29 ?_
      refine lv_if_eq (tgt := 37) hx hb dX6_workOn_32 (by decide) (fun c_32 => ?_) (fun c_32 => ?_)
      · have hok : f_ok σ mm i h := (by first | (rw [f_ok, if_pos c_2]; exact c_32) | (rw [f_ok, if_neg c_2]; exact x_if1 hr_19 c_22))
        refine lv_aload_n hx hb dX6_workOn_37 rfl (lv_at hl 1 rfl) ?_
        refine xg_r hc hw 6 0 4 rfl rfl rfl rfl (by decide) (Nat.zero_lt_one) (Nat.zero_lt_one) mw_83 dX6_workOn_38 ?_
        refine lv_iload_n hx hb dX6_workOn_41 rfl (lv_at hl 2 rfl) ?_
        refine xa_rld hc hw 22 0 mm rfl (Nat.zero_lt_one) (rfl) (hmm) (hmm) dX6_workOn_42 ?_
        refine lv_aload_n hx hb dX6_workOn_43 rfl (lv_at hl 3 rfl) ?_
        refine xg_i hc hw 0 i 1 rfl rfl rfl rfl (by decide) (hi) mw_426 dX6_workOn_44 ?_
        refine xc_Vi hc hw 3 mm (c_X3_breaksAt mm (σ 0 i 1) (hmm)) rfl rfl (hmm) mw_505 mw_502 mw_3 mw_503 mw_504 xd_X3_breaksAt ⟨by decide, by decide⟩ (rfl) hl.1 (Nat.le_of_ble_eq_true rfl) dX6_workOn_47 ⟨Nat.le_of_ble_eq_true rfl, Nat.le_of_ble_eq_true rfl⟩ (fun r_47 σ_47 H locs hq hw => ?_)
        have hq_47 := hq
        obtain ⟨hr_47, hσ_47⟩ := hq_47
        refine lv_if_eq (tgt := 75) hx hb dX6_workOn_50 (by decide) (fun c_50 => ?_) (fun c_50 => ?_)
        · have hbk := x_if0 hr_47 c_50
          refine lv_iload hx hb dX6_workOn_75 (lv_at hl 0 rfl) ?_
          refine lv_if_eq (tgt := 85) hx hb dX6_workOn_77 (by decide) (fun c_77 => ?_) (fun c_77 => ?_)
          · refine lv_aload_n hx hb dX6_workOn_85 rfl (lv_at hl 3 rfl) ?_
            refine lv_iload hx hb dX6_workOn_86 (lv_at hl 0 rfl) ?_
            refine lv_if_eq (tgt := 95) hx hb dX6_workOn_88 (by decide) (fun c_88 => ?_) (fun c_88 => ?_)
            · refine lv_iconst (v := 1) hx hb dX6_workOn_95 (by decide) ?_
              refine xp_i hc hw 0 i 5 rfl rfl rfl rfl (by decide) (hi) rfl (ty := .int) (by decide +kernel) rfl rfl mw_434 dX6_workOn_96 (fun H locs hw => ?_)
              refine lv_iconst (v := 1) hx hb dX6_workOn_99 (by decide) ?_
              exact xr_i hc hlocks hr rfl hw (by rw [q_X6_workOn, f_wk, if_neg (not_not_intro hok), if_neg hbk]; exact ⟨rfl, by rw [hσ_47]; first | rw [if_pos c_2] | rw [if_neg c_2]⟩) (Nat.le_of_ble_eq_true rfl) (Nat.le_of_ble_eq_true rfl) dX6_workOn_100
            · exact absurd c_88 (by decide)
          · exact absurd c_77 (by decide)
        · have hbk := x_if1 hr_47 c_50
          refine lv_aload_n hx hb dX6_workOn_53 rfl (lv_at hl 3 rfl) ?_
          refine lv_iconst (v := 3) hx hb dX6_workOn_54 (by decide) ?_
          refine xp_i hc hw 0 i 5 rfl rfl rfl rfl (by decide) (hi) rfl (ty := .int) (by decide +kernel) rfl rfl mw_434 dX6_workOn_55 (fun H locs hw => ?_)
          refine lv_aload_n hx hb dX6_workOn_58 rfl (lv_at hl 3 rfl) ?_
          refine lv_iload_n hx hb dX6_workOn_59 rfl (lv_at hl 2 rfl) ?_
          refine xp_i hc hw 0 i 7 rfl rfl rfl rfl (by decide) (hi) rfl (ty := .int) (by decide +kernel) rfl rfl mw_438 dX6_workOn_60 (fun H locs hw => ?_)
          refine lv_aload_n hx hb dX6_workOn_63 rfl (lv_at hl 1 rfl) ?_
          refine lv_dup hx hb dX6_workOn_64 rfl ?_
          refine xg_i hc hw 6 0 12 rfl rfl rfl rfl (by decide) (Nat.zero_lt_one) mw_91 dX6_workOn_65 ?_
          refine lv_iconst (v := 1) hx hb dX6_workOn_68 (by decide) ?_
          refine lv_iadd hx hb dX6_workOn_69 ?_
          refine xp_i hc hw 6 0 12 rfl rfl rfl rfl (by decide) (Nat.zero_lt_one) rfl (ty := .int) (by decide +kernel) rfl rfl mw_91 dX6_workOn_70 (fun H locs hw => ?_)
          refine lv_iconst (v := 0) hx hb dX6_workOn_73 (by decide) ?_
          exact xr_i hc hlocks hr rfl hw (by rw [q_X6_workOn, f_wk, if_neg (not_not_intro hok), if_pos hbk]; exact ⟨rfl, by rw [hσ_47]; simp [x_up, f_brk'_6]⟩) (Nat.le_of_ble_eq_true rfl) (Nat.le_of_ble_eq_true rfl) dX6_workOn_74
      · refine lv_iconst (v := (-1)) hx hb dX6_workOn_35 (by decide) ?_
        exact xr_i hc hlocks hr rfl hw (by rw [q_X6_workOn, f_wk, if_pos (fun q : f_ok σ mm i h => by first | (rw [f_ok, if_pos c_2] at q; exact c_32 q) | (rw [f_ok, if_neg c_2] at q; exact x_if0 hr_19 c_22 q))]; exact ⟨rfl, rfl⟩) (Nat.le_of_ble_eq_true rfl) (Nat.le_of_ble_eq_true rfl) dX6_workOn_36
    · exact absurd c_14 (by decide)
  · refine lv_iconst (v := 1) hx hb dX6_workOn_5 (by decide) ?_
    refine lv_goto (tgt := 10) hx hb dX6_workOn_6 (by decide) ?_
    refine lv_istore (lv' := [(4, .int 1), (0, .ref (ad 6 0)), (1, .int (nI mm)), (2, .ref (ad 0 i)), (3, .int h)]) hx hb dX6_workOn_10 hl (by decide) rfl (fun ls hl => ?_)
    refine lv_iload hx hb dX6_workOn_12 (lv_at hl 0 rfl) ?_
    refine lv_if_eq (tgt := 28) hx hb dX6_workOn_14 (by decide) (fun c_14 => ?_) (fun c_14 => ?_)
    · exact absurd c_14 (by decide)
    · refine lv_aload_n hx hb dX6_workOn_17 rfl (lv_at hl 3 rfl) ?_
      refine lv_iload_n hx hb dX6_workOn_18 rfl (lv_at hl 4 rfl) ?_
      refine xc_Vi hc hw 0 i (c_X0_canBeDrilled i h (hi)) rfl rfl (hi) mw_500 mw_497 mw_13 mw_498 mw_499 xd_X0_canBeDrilled ⟨by decide, by decide⟩ (rfl) hl.1 (Nat.le_of_ble_eq_true rfl) dX6_workOn_19 ⟨Nat.le_of_ble_eq_true rfl, Nat.le_of_ble_eq_true rfl⟩ (fun r_19 σ_19 H locs hq hw => ?_)
      obtain ⟨hσ_19, hr_19⟩ := hq
      rw [hσ_19] at hw
      refine lv_if_ne (tgt := 37) hx hb dX6_workOn_22 (by decide) (fun c_22 => ?_) (fun c_22 => ?_)
      · have hok : f_ok σ mm i h := (by first | (rw [f_ok, if_pos c_2]; exact c_32) | (rw [f_ok, if_neg c_2]; exact x_if1 hr_19 c_22))
        refine lv_aload_n hx hb dX6_workOn_37 rfl (lv_at hl 1 rfl) ?_
        refine xg_r hc hw 6 0 4 rfl rfl rfl rfl (by decide) (Nat.zero_lt_one) (Nat.zero_lt_one) mw_83 dX6_workOn_38 ?_
        refine lv_iload_n hx hb dX6_workOn_41 rfl (lv_at hl 2 rfl) ?_
        refine xa_rld hc hw 22 0 mm rfl (Nat.zero_lt_one) (rfl) (hmm) (hmm) dX6_workOn_42 ?_
        refine lv_aload_n hx hb dX6_workOn_43 rfl (lv_at hl 3 rfl) ?_
        refine xg_i hc hw 0 i 1 rfl rfl rfl rfl (by decide) (hi) mw_426 dX6_workOn_44 ?_
        refine xc_Vi hc hw 3 mm (c_X3_breaksAt mm (σ 0 i 1) (hmm)) rfl rfl (hmm) mw_505 mw_502 mw_3 mw_503 mw_504 xd_X3_breaksAt ⟨by decide, by decide⟩ (rfl) hl.1 (Nat.le_of_ble_eq_true rfl) dX6_workOn_47 ⟨Nat.le_of_ble_eq_true rfl, Nat.le_of_ble_eq_true rfl⟩ (fun r_47 σ_47 H locs hq hw => ?_)
        have hq_47 := hq
        obtain ⟨hr_47, hσ_47⟩ := hq_47
        refine lv_if_eq (tgt := 75) hx hb dX6_workOn_50 (by decide) (fun c_50 => ?_) (fun c_50 => ?_)
        · have hbk := x_if0 hr_47 c_50
          refine lv_iload hx hb dX6_workOn_75 (lv_at hl 0 rfl) ?_
          refine lv_if_eq (tgt := 85) hx hb dX6_workOn_77 (by decide) (fun c_77 => ?_) (fun c_77 => ?_)
          · exact absurd c_77 (by decide)
          · refine lv_aload_n hx hb dX6_workOn_80 rfl (lv_at hl 3 rfl) ?_
            refine lv_iload_n hx hb dX6_workOn_81 rfl (lv_at hl 4 rfl) ?_
            refine xp_i hc hw 0 i 6 rfl rfl rfl rfl (by decide) (hi) rfl (ty := .int) (by decide +kernel) rfl rfl mw_436 dX6_workOn_82 (fun H locs hw => ?_)
            refine lv_aload_n hx hb dX6_workOn_85 rfl (lv_at hl 3 rfl) ?_
            refine lv_iload hx hb dX6_workOn_86 (lv_at hl 0 rfl) ?_
            refine lv_if_eq (tgt := 95) hx hb dX6_workOn_88 (by decide) (fun c_88 => ?_) (fun c_88 => ?_)
            · exact absurd c_88 (by decide)
            · refine lv_iconst (v := 2) hx hb dX6_workOn_91 (by decide) ?_
              refine lv_goto (tgt := 96) hx hb dX6_workOn_92 (by decide) ?_
              refine xp_i hc hw 0 i 5 rfl rfl rfl rfl (by decide) (hi) rfl (ty := .int) (by decide +kernel) rfl rfl mw_434 dX6_workOn_96 (fun H locs hw => ?_)
              refine lv_iconst (v := 1) hx hb dX6_workOn_99 (by decide) ?_
              exact xr_i hc hlocks hr rfl hw (by rw [q_X6_workOn, f_wk, if_neg (not_not_intro hok), if_neg hbk]; exact ⟨rfl, by rw [hσ_47]; first | rw [if_pos c_2] | rw [if_neg c_2]⟩) (Nat.le_of_ble_eq_true rfl) (Nat.le_of_ble_eq_true rfl) dX6_workOn_100
        · have hbk := x_if1 hr_47 c_50
          refine lv_aload_n hx hb dX6_workOn_53 rfl (lv_at hl 3 rfl) ?_
          refine lv_iconst (v := 3) hx hb dX6_workOn_54 (by decide) ?_
          refine xp_i hc hw 0 i 5 rfl rfl rfl rfl (by decide) (hi) rfl (ty := .int) (by decide +kernel) rfl rfl mw_434 dX6_workOn_55 (fun H locs hw => ?_)
          refine lv_aload_n hx hb dX6_workOn_58 rfl (lv_at hl 3 rfl) ?_
          refine lv_iload_n hx hb dX6_workOn_59 rfl (lv_at hl 2 rfl) ?_
          refine xp_i hc hw 0 i 7 rfl rfl rfl rfl (by decide) (hi) rfl (ty := .int) (by decide +kernel) rfl rfl mw_438 dX6_workOn_60 (fun H locs hw => ?_)
          refine lv_aload_n hx hb dX6_workOn_63 rfl (lv_at hl 1 rfl) ?_
          refine lv_dup hx hb dX6_workOn_64 rfl ?_
          refine xg_i hc hw 6 0 12 rfl rfl rfl rfl (by decide) (Nat.zero_lt_one) mw_91 dX6_workOn_65 ?_
          refine lv_iconst (v := 1) hx hb dX6_workOn_68 (by decide) ?_
          refine lv_iadd hx hb dX6_workOn_69 ?_
          refine xp_i hc hw 6 0 12 rfl rfl rfl rfl (by decide) (Nat.zero_lt_one) rfl (ty := .int) (by decide +kernel) rfl rfl mw_91 dX6_workOn_70 (fun H locs hw => ?_)
          refine lv_iconst (v := 0) hx hb dX6_workOn_73 (by decide) ?_
          exact xr_i hc hlocks hr rfl hw (by rw [q_X6_workOn, f_wk, if_neg (not_not_intro hok), if_pos hbk]; exact ⟨rfl, by rw [hσ_47]; simp [x_up, f_brk'_6]⟩) (Nat.le_of_ble_eq_true rfl) (Nat.le_of_ble_eq_true rfl) dX6_workOn_74
      · refine lv_goto (tgt := 35) hx hb dX6_workOn_25 (by decide) ?_
        refine lv_iconst (v := (-1)) hx hb dX6_workOn_35 (by decide) ?_
        exact xr_i hc hlocks hr rfl hw (by rw [q_X6_workOn, f_wk, if_pos (fun q : f_ok σ mm i h => by first | (rw [f_ok, if_pos c_2] at q; exact c_32 q) | (rw [f_ok, if_neg c_2] at q; exact x_if0 hr_19 c_22 q))]; exact ⟨rfl, rfl⟩) (Nat.le_of_ble_eq_true rfl) (Nat.le_of_ble_eq_true rfl) dX6_workOn_36
/-- X6_work -/
def q_X6_work (σ : x_St) (a b h : Int32) : Int32 → x_St → Prop := fun r σ' => ((0 ≤ a ∧ a ≤ 5) ∧ (0 ≤ b ∧ b < σ 6 0 3)) ∧ r = (f_wk σ (x_c a) (x_c b) h).1 ∧ σ' = (f_wk σ (x_c a) (x_c b) h).2
set_option maxHeartbeats 4000000 in
set_option maxRecDepth 100000 in
theorem c_X6_work {l : Launch} {D : va_G} {cs : Nat → ClassId} {base : Nat} {ad : Nat → Nat → Nat} {nS nB nC nO : Nat} {σ : x_St} (hl0 : l.stackTraces = false) (a b h : Int32) (hB : σ 6 0 3 = nI nB) (hB0 : nB ≤ 400) : x_Xi l yX6_work cX6_work 4 (some .int) 10 2 12 D cs base ad (x_n nS nB nC nO) (x_s nS nB nC nO nS nC) σ [.ref (ad 6 0), .int a, .int b, .int h] (q_X6_work σ a b h) (fun σ' => x_U D cs base ad (x_n nS nB nC nO) (x_s nS nB nC nO nS nC) σ') (fun E => E = x_nse ∧ ¬ ((0 ≤ a ∧ a ≤ 5) ∧ (0 ≤ b ∧ b < σ 6 0 3))) := by
  refine vx_ofW (cc := cX6_work) (maxL := 4) (ret := some .int) (by decide) rfl ?_
  intro p e s m args below meth c s₁ B hml hout hv
  obtain ⟨rfl, hU⟩ := hv
  have hx := B.exec
  have hb := B.bytes
  have hr := B.returns
  have hts := atoms_spec (ws := Cond.code yX6_work cX6_work 4 (some .int) :: Tw) B.pre
  have hown : s.vm.findClass RX6 = some m.cls := findClass_of_methodNamed B.named
  have hlocks := B.notSynchronized
  have hc : CallFix p m c cX6_work 4 s (([.ref (ad 6 0), .int a, .int b, .int h] : List Value).toArray) Tw RX6 := ⟨hx, hb, hml, hown, fun w hw => hts w (List.mem_cons_of_mem _ hw)⟩
  have hw := x_B.start hU
  have hl := lv_entry ([.ref (ad 6 0), .int a, .int b, .int h]) (n := 4) (Nat.le_of_ble_eq_true rfl)
  rw [lg_entry_eq]
  generalize (lg_sl ([.ref (ad 6 0), .int a, .int b, .int h]) ++ List.replicate (4 - (lg_sl ([.ref (ad 6 0), .int a, .int b, .int h])).length) Slot.unset).toArray = ls at hl ⊢
  have hl : lv_has ls 4 [(0, .ref (ad 6 0)), (1, .int a), (2, .int b), (3, .int h)] := hl
  show W p l e (x_rm 10 2 12) s m ([.ref (ad 6 0), .int a, .int b, .int h] : List Value).toArray below meth c s.heap [] 0 0 (vx_MQ below (va_Qi (q_X6_work σ a b h) (fun σ' => x_U D cs base ad (x_n nS nB nC nO) (x_s nS nB nC nO nS nC) σ') (x_A base)) (x_XC D cs base ad (x_n nS nB nC nO) (x_s nS nB nC nO nS nC) σ (fun E => E = x_nse ∧ ¬ ((0 ≤ a ∧ a ≤ 5) ∧ (0 ≤ b ∧ b < σ 6 0 3)))) ([.ref (ad 6 0), .int a, .int b, .int h] : List Value).toArray s 2 12 (x_A base)) (F0 m 0 ls [])
  refine lv_aload_n hx hb dX6_work_0 rfl (lv_at hl 0 rfl) ?_
  refine lv_iload_n hx hb dX6_work_1 rfl (lv_at hl 1 rfl) ?_
  refine xc_Xr hc hw 6 0 (c_X6_machineNumbered hl0 a) rfl rfl (Nat.zero_lt_one) mw_483 mw_480 mw_1 mw_482 mp_11 xd_X6_machineNumbered ⟨by decide, by decide⟩ (rfl) hl.1 (Nat.le_of_ble_eq_true rfl) dX6_work_2 ⟨Nat.le_of_ble_eq_true rfl, Nat.le_of_ble_eq_true rfl⟩ (fun E ce q9 H locs hp hw hq1 hq2 hq3 => ?_) (fun j_2 H locs hq hw => ?_)
  · exact xo_out hout hlocks hw (⟨hp.1, fun q => hp.2 q.1⟩) hq1 hq2 hq3 (Nat.le_of_ble_eq_true rfl) (Nat.le_of_ble_eq_true rfl)
  have hq_2 := hq
  obtain ⟨hj1, hj2, hj3⟩ := hq_2
  subst hj2
  refine lv_pop hx hb dX6_work_5 rfl ?_
  refine lv_aload_n hx hb dX6_work_6 rfl (lv_at hl 0 rfl) ?_
  refine lv_iload_n hx hb dX6_work_7 rfl (lv_at hl 1 rfl) ?_
  refine lv_aload_n hx hb dX6_work_8 rfl (lv_at hl 0 rfl) ?_
  refine lv_iload_n hx hb dX6_work_9 rfl (lv_at hl 2 rfl) ?_
  refine xc_Xr hc hw 6 0 (c_X6_buttonNumbered hl0 b hB hB0) rfl rfl (Nat.zero_lt_one) mw_470 mw_467 mw_1 mw_469 mp_10 xd_X6_buttonNumbered ⟨by decide, by decide⟩ (rfl) hl.1 (Nat.le_of_ble_eq_true rfl) dX6_work_10 ⟨Nat.le_of_ble_eq_true rfl, Nat.le_of_ble_eq_true rfl⟩ (fun E ce q9 H locs hp hw hq1 hq2 hq3 => ?_) (fun j_10 H locs hq hw => ?_)
  · exact xo_out hout hlocks hw (⟨hp.1, fun q => hp.2 q.2⟩) hq1 hq2 hq3 (Nat.le_of_ble_eq_true rfl) (Nat.le_of_ble_eq_true rfl)
  have hq_10 := hq
  obtain ⟨hk1, hk2, hk3⟩ := hq_10
  subst hk2
  refine lv_iload_n hx hb dX6_work_13 rfl (lv_at hl 3 rfl) ?_
  refine xc_Vi hc hw 6 0 (c_X6_workOn (x_c a) (x_c b) h hj1 hk1) rfl rfl (Nat.zero_lt_one) mw_496 mw_493 mw_1 mw_495 mp_12 xd_X6_workOn ⟨by decide, by decide⟩ (by rw [← (x_ixle hj3.1 hj3.2 (N := 5) rfl (by decide)).1]; rfl) hl.1 (Nat.le_of_ble_eq_true rfl) dX6_work_14 ⟨Nat.le_of_ble_eq_true rfl, Nat.le_of_ble_eq_true rfl⟩ (fun r_14 σ_14 H locs hq hw => ?_)
  have hq_14 := hq
  exact xr_xi hc hlocks hr rfl hw (⟨⟨hj3, hk3⟩, hq_14⟩) (Nat.le_of_ble_eq_true rfl) (Nat.le_of_ble_eq_true rfl) dX6_work_17
/-- X6_works -/
def q_X6_works (σ : x_St) (a b d f : Int32) (nB : Nat) : Int32 → x_St → Prop := fun r σ' => ((0 ≤ a ∧ a ≤ 5) ∧ 0 ≤ b ∧ b ≤ d) ∧ r = nI (f_ws (x_c a) f (min (x_c d) nB - x_c b) (x_c b) σ 0).1 ∧ σ' = (f_ws (x_c a) f (min (x_c d) nB - x_c b) (x_c b) σ 0).2
set_option maxHeartbeats 4000000 in
set_option maxRecDepth 100000 in
theorem c_X6_works {l : Launch} {D : va_G} {cs : Nat → ClassId} {base : Nat} {ad : Nat → Nat → Nat} {nS nB nC nO : Nat} {σ : x_St} (hl0 : l.stackTraces = false) (a b d f : Int32) (hB : σ 6 0 3 = nI nB) (hB0 : nB ≤ 400) : x_Xi l yX6_works cX6_works 8 (some .int) 10 2 12 D cs base ad (x_n nS nB nC nO) (x_s nS nB nC nO nS nC) σ [.ref (ad 6 0), .int a, .int b, .int d, .int f] (q_X6_works σ a b d f nB) (fun σ' => x_U D cs base ad (x_n nS nB nC nO) (x_s nS nB nC nO nS nC) σ') (fun E => (E = x_nse ∧ ¬ (0 ≤ a ∧ a ≤ 5)) ∨ (E = x_iae ∧ (0 ≤ a ∧ a ≤ 5) ∧ ¬ (0 ≤ b ∧ b ≤ d))) := by
  refine vx_ofW (cc := cX6_works) (maxL := 8) (ret := some .int) (by decide) rfl ?_
  intro p e s m args below meth c s₁ B hml hout hv
  obtain ⟨rfl, hU⟩ := hv
  have hx := B.exec
  have hb := B.bytes
  have hr := B.returns
  have hts := atoms_spec (ws := Cond.code yX6_works cX6_works 8 (some .int) :: Tw) B.pre
  have hown : s.vm.findClass RX6 = some m.cls := findClass_of_methodNamed B.named
  have hlocks := B.notSynchronized
  have hc : CallFix p m c cX6_works 8 s (([.ref (ad 6 0), .int a, .int b, .int d, .int f] : List Value).toArray) Tw RX6 := ⟨hx, hb, hml, hown, fun w hw => hts w (List.mem_cons_of_mem _ hw)⟩
  have hw := x_B.start hU
  have hl := lv_entry ([.ref (ad 6 0), .int a, .int b, .int d, .int f]) (n := 8) (Nat.le_of_ble_eq_true rfl)
  rw [lg_entry_eq]
  generalize (lg_sl ([.ref (ad 6 0), .int a, .int b, .int d, .int f]) ++ List.replicate (8 - (lg_sl ([.ref (ad 6 0), .int a, .int b, .int d, .int f])).length) Slot.unset).toArray = ls at hl ⊢
  have hl : lv_has ls 8 [(0, .ref (ad 6 0)), (1, .int a), (2, .int b), (3, .int d), (4, .int f)] := hl
  show W p l e (x_rm 10 2 12) s m ([.ref (ad 6 0), .int a, .int b, .int d, .int f] : List Value).toArray below meth c s.heap [] 0 0 (vx_MQ below (va_Qi (q_X6_works σ a b d f nB) (fun σ' => x_U D cs base ad (x_n nS nB nC nO) (x_s nS nB nC nO nS nC) σ') (x_A base)) (x_XC D cs base ad (x_n nS nB nC nO) (x_s nS nB nC nO nS nC) σ (fun E => (E = x_nse ∧ ¬ (0 ≤ a ∧ a ≤ 5)) ∨ (E = x_iae ∧ (0 ≤ a ∧ a ≤ 5) ∧ ¬ (0 ≤ b ∧ b ≤ d)))) ([.ref (ad 6 0), .int a, .int b, .int d, .int f] : List Value).toArray s 2 12 (x_A base)) (F0 m 0 ls [])
  refine lv_aload_n hx hb dX6_works_0 rfl (lv_at hl 0 rfl) ?_
  refine lv_iload_n hx hb dX6_works_1 rfl (lv_at hl 1 rfl) ?_
  refine xc_Xr hc hw 6 0 (c_X6_machineNumbered hl0 a) rfl rfl (Nat.zero_lt_one) mw_483 mw_480 mw_1 mw_482 mp_11 xd_X6_machineNumbered ⟨by decide, by decide⟩ (rfl) hl.1 (Nat.le_of_ble_eq_true rfl) dX6_works_2 ⟨Nat.le_of_ble_eq_true rfl, Nat.le_of_ble_eq_true rfl⟩ (fun E ce q9 H locs hp hw hq1 hq2 hq3 => ?_) (fun j_2 H locs hq hw => ?_)
  · exact xo_out hout hlocks hw (Or.inl hp) hq1 hq2 hq3 (Nat.le_of_ble_eq_true rfl) (Nat.le_of_ble_eq_true rfl)
  have hq_2 := hq
  obtain ⟨hj1, hj2, hj3⟩ := hq_2
  subst hj2
  refine lv_pop hx hb dX6_works_5 rfl ?_
  refine lv_iload_n hx hb dX6_works_6 rfl (lv_at hl 2 rfl) ?_
  refine lv_if_lt (tgt := 15) hx hb dX6_works_7 (by decide) (fun c_7 => ?_) (fun c_7 => ?_)
  · exact xk_I hl0 hc hout hlocks hw (is := 186) (text := "no such buttons from one to another") (by decide +kernel) (Or.inr ⟨rfl, hj3, fun q => by first | exact absurd q.1 (Int32.not_le.mpr c_7) | exact c_12 q.2⟩) dX6_works_15 dX6_works_18 dX6_works_19 dX6_works_21 dX6_works_24 hl.1 ⟨by decide, Nat.le_of_ble_eq_true rfl, by decide, by decide⟩ (by decide) (by decide)
  · refine lv_iload_n hx hb dX6_works_10 rfl (lv_at hl 2 rfl) ?_
    refine lv_iload_n hx hb dX6_works_11 rfl (lv_at hl 3 rfl) ?_
    refine lv_icmp_le (tgt := 25) hx hb dX6_works_12 (by decide) (fun c_12 => ?_) (fun c_12 => ?_)
    · have hQ : 0 ≤ b ∧ b ≤ d := ⟨Int32.not_lt.mp c_7, c_12⟩
      obtain ⟨eb1, eb2⟩ := x_nn hQ.1
      obtain ⟨ed1, ed2⟩ := x_nn (Int32.le_trans hQ.1 hQ.2)
      refine lv_iload_n hx hb dX6_works_25 rfl (lv_at hl 3 rfl) ?_
      refine lv_aload_n hx hb dX6_works_26 rfl (lv_at hl 0 rfl) ?_
      refine xg_i hc hw 6 0 3 rfl rfl rfl rfl (by decide) (Nat.zero_lt_one) mw_82 dX6_works_27 ?_
      refine va_mmin hx hb (hml.trans hl.1.symm) hown (hc.2.2.2.2 _ mw_517) (hc.2.2.2.2 _ mw_360) (hc.2.2.2.2 _ mw_11) (hc.2.2.2.2 _ mw_361) (by decide) (Nat.le_of_ble_eq_true rfl) (by decide) (by decide) dX6_works_30 ?_
      refine lv_topi (fun x5v ex5v => ?_)
      refine lv_istore (lv' := [(5, .int x5v), (0, .ref (ad 6 0)), (1, .int a), (2, .int b), (3, .int d), (4, .int f)]) hx hb dX6_works_33 hl (by decide) rfl (fun ls hl => ?_)
      have h5 : x5v = nI (min (x_c d) nB) := (by rw [ex5v, hB]; exact x_min ed1 ed2 (by omega))
      refine lv_iconst (v := 0) hx hb dX6_works_35 (by decide) ?_
      refine lv_istore (lv' := [(6, .int 0), (5, .int x5v), (0, .ref (ad 6 0)), (1, .int a), (2, .int b), (3, .int d), (4, .int f)]) hx hb dX6_works_36 hl (by decide) rfl (fun ls hl => ?_)
      refine lv_iload_n hx hb dX6_works_38 rfl (lv_at hl 4 rfl) ?_
      refine lv_istore (lv' := [(7, .int b), (6, .int 0), (5, .int x5v), (0, .ref (ad 6 0)), (1, .int a), (2, .int b), (3, .int d), (4, .int f)]) hx hb dX6_works_39 hl (by decide) rfl (fun ls hl => ?_)
      have cut_41 : ∀ (N : Nat) (k : Nat) (cn : Nat) (x6 : Int32) (x7 : Int32) (σc : x_St), (k < 2 ^ 31) → (x6 = nI cn) → (x7 = nI k) → (f_ws (x_c a) f (min (x_c d) nB - k) k σc cn = (f_ws (x_c a) f (min (x_c d) nB - x_c b) (x_c b) σ 0)) → (min (x_c d) nB - k < N) → ∀ (H : Heap) (locs : List Loc) (ls : Array Slot), lv_has ls 8 [(0, .ref (ad 6 0)), (1, .int a), (2, .int b), (3, .int d), (4, .int f), (5, .int x5v), (6, .int x6), (7, .int x7)] → x_B D cs base ad (x_n nS nB nC nO) (x_s nS nB nC nO nS nC) σc s H locs → W p l e (x_rm 10 2 12) s m ([.ref (ad 6 0), .int a, .int b, .int d, .int f] : List Value).toArray below meth c H locs 1 6 (vx_MQ below (va_Qi (q_X6_works σ a b d f nB) (fun σ' => x_U D cs base ad (x_n nS nB nC nO) (x_s nS nB nC nO nS nC) σ') (x_A base)) (x_XC D cs base ad (x_n nS nB nC nO) (x_s nS nB nC nO nS nC) σ (fun E => (E = x_nse ∧ ¬ (0 ≤ a ∧ a ≤ 5)) ∨ (E = x_iae ∧ (0 ≤ a ∧ a ≤ 5) ∧ ¬ (0 ≤ b ∧ b ≤ d)))) ([.ref (ad 6 0), .int a, .int b, .int d, .int f] : List Value).toArray s 2 12 (x_A base)) (F0 m 41 ls []) := by
        intro N
        induction N with
        | zero => intro k cn x6 x7 σc hk h6c h7 hI hN; exact absurd hN (Nat.not_lt_zero _)
        | succ N ih_41 =>
          intro k cn x6 x7 σc hk h6c h7 hI hN H locs ls hl hw
          refine lv_iload hx hb dX6_works_41 (lv_at hl 7 rfl) ?_
          refine lv_iload hx hb dX6_works_43 (lv_at hl 5 rfl) ?_
          refine lv_icmp_ge (tgt := 75) hx hb dX6_works_45 (by decide) (fun c_45 => ?_) (fun c_45 => ?_)
          · refine lv_iload hx hb dX6_works_75 (lv_at hl 6 rfl) ?_
            exact xr_xi hc hlocks hr rfl hw (by have hz := x_ge h7 h5 hk (by omega) c_45; rw [show min (x_c d) nB - k = 0 by omega, f_ws] at hI; rw [q_X6_works, ← hI]; exact ⟨⟨hj3, hQ⟩, h6c, rfl⟩) (Nat.le_of_ble_eq_true rfl) (Nat.le_of_ble_eq_true rfl) dX6_works_77
          · have hle : k < min (x_c d) nB := x_nge h7 h5 hk (by omega) c_45
            have hlt : k < nB := (by omega)
            have hst : min (x_c d) nB - k = (min (x_c d) nB - (k + 1)) + 1 := by omega
            rw [hst, f_ws] at hI
            refine lv_aload_n hx hb dX6_works_48 rfl (lv_at hl 0 rfl) ?_
            refine lv_iload_n hx hb dX6_works_49 rfl (lv_at hl 1 rfl) ?_
            refine lv_aload_n hx hb dX6_works_50 rfl (lv_at hl 0 rfl) ?_
            refine xg_r hc hw 6 0 2 rfl rfl rfl rfl (by decide) (Nat.zero_lt_one) (Nat.zero_lt_one) mw_81 dX6_works_51 ?_
            refine lv_iload hx hb dX6_works_54 (lv_at hl 7 rfl) ?_
            refine xa_rld hc hw 21 0 k rfl (Nat.zero_lt_one) (h7) (by show _ < 400; omega) (hlt) dX6_works_56 ?_
            refine lv_iload hx hb dX6_works_57 (lv_at hl 4 rfl) ?_
            refine xc_Vi hc hw 6 0 (c_X6_workOn (x_c a) k f hj1 hlt) rfl rfl (Nat.zero_lt_one) mw_496 mw_493 mw_1 mw_495 mp_12 xd_X6_workOn ⟨by decide, by decide⟩ (by rw [← (x_ixle hj3.1 hj3.2 (N := 5) rfl (by decide)).1]; rfl) hl.1 (Nat.le_of_ble_eq_true rfl) dX6_works_59 ⟨Nat.le_of_ble_eq_true rfl, Nat.le_of_ble_eq_true rfl⟩ (fun r_59 σ_59 H locs hq hw => ?_)
            have hq_59 := hq
            obtain ⟨hr_59, hσ_59⟩ := hq_59
            refine lv_iconst (v := 1) hx hb dX6_works_62 (by decide) ?_
            refine lv_icmp_ne (tgt := 69) hx hb dX6_works_63 (by decide) (fun c_63 => ?_) (fun c_63 => ?_)
            · obtain ⟨x7_69, ex7_69⟩ : ∃ y : Int32, y = x7 + 1 := ⟨_, rfl⟩
              refine lv_iinc (v := x7_69) (lv' := [(7, .int x7_69), (0, .ref (ad 6 0)), (1, .int a), (2, .int b), (3, .int d), (4, .int f), (5, .int x5v), (6, .int x6)]) hx hb dX6_works_69 hl (k := 7) rfl (by rw [ex7_69]; rfl) (by decide) rfl (fun ls hl => ?_)
              refine lv_goto (tgt := 41) hx hb dX6_works_72 (by decide) ?_
              exact ih_41 (k + 1) (cn + if (f_wk σc (x_c a) k f).1 = 1 then 1 else 0) _ _ _ (by omega) (by first | (rw [ex6_66, h6c, nI_1, if_pos (hr_59.symm.trans c_63)]) | (rw [h6c, if_neg (fun q => c_63 (hr_59.trans q)), Nat.add_zero])) (by rw [ex7_69, h7, nI_1]) (by rw [hσ_59]; exact hI) (by omega) _ _ _ (lv_sub hl [1, 2, 3, 4, 5, 6, 7, 0] rfl) hw
            · obtain ⟨x6_66, ex6_66⟩ : ∃ y : Int32, y = x6 + 1 := ⟨_, rfl⟩
              refine lv_iinc (v := x6_66) (lv' := [(6, .int x6_66), (0, .ref (ad 6 0)), (1, .int a), (2, .int b), (3, .int d), (4, .int f), (5, .int x5v), (7, .int x7)]) hx hb dX6_works_66 hl (k := 6) rfl (by rw [ex6_66]; rfl) (by decide) rfl (fun ls hl => ?_)
              obtain ⟨x7_69, ex7_69⟩ : ∃ y : Int32, y = x7 + 1 := ⟨_, rfl⟩
              refine lv_iinc (v := x7_69) (lv' := [(7, .int x7_69), (6, .int x6_66), (0, .ref (ad 6 0)), (1, .int a), (2, .int b), (3, .int d), (4, .int f), (5, .int x5v)]) hx hb dX6_works_69 hl (k := 7) rfl (by rw [ex7_69]; rfl) (by decide) rfl (fun ls hl => ?_)
              refine lv_goto (tgt := 41) hx hb dX6_works_72 (by decide) ?_
              exact ih_41 (k + 1) (cn + if (f_wk σc (x_c a) k f).1 = 1 then 1 else 0) _ _ _ (by omega) (by first | (rw [ex6_66, h6c, nI_1, if_pos (hr_59.symm.trans c_63)]) | (rw [h6c, if_neg (fun q => c_63 (hr_59.trans q)), Nat.add_zero])) (by rw [ex7_69, h7, nI_1]) (by rw [hσ_59]; exact hI) (by omega) _ _ _ (lv_sub hl [2, 3, 4, 5, 6, 7, 1, 0] rfl) hw
      exact cut_41 _ (x_c b) 0 _ _ _ (eb2) (rfl) (eb1) (rfl) (Nat.lt_succ_self _) _ _ _ (lv_sub hl [3, 4, 5, 6, 7, 2, 1, 0] rfl) hw
    · exact xk_I hl0 hc hout hlocks hw (is := 186) (text := "no such buttons from one to another") (by decide +kernel) (Or.inr ⟨rfl, hj3, fun q => by first | exact absurd q.1 (Int32.not_le.mpr c_7) | exact c_12 q.2⟩) dX6_works_15 dX6_works_18 dX6_works_19 dX6_works_21 dX6_works_24 hl.1 ⟨by decide, Nat.le_of_ble_eq_true rfl, by decide, by decide⟩ (by decide) (by decide)
/-- X6_bleach -/
def q_X6_bleach (σ : x_St) (a b : Int32) (nB : Nat) : Int32 → x_St → Prop := fun r σ' => ((0 ≤ a ∧ a < σ 6 0 1) ∧ 0 ≤ b ∧ b ≤ 9) ∧ r = nI (f_bl a b nB 0 σ 0).1 ∧ σ' = (f_bl a b nB 0 σ 0).2
set_option maxHeartbeats 4000000 in
set_option maxRecDepth 100000 in
theorem c_X6_bleach {l : Launch} {D : va_G} {cs : Nat → ClassId} {base : Nat} {ad : Nat → Nat → Nat} {nS nB nC nO : Nat} {σ : x_St} (hl0 : l.stackTraces = false) (a b : Int32) (hS : σ 6 0 1 = nI nS) (hS0 : nS ≤ 30) (hB : σ 6 0 3 = nI nB) (hB0 : nB ≤ 400) : x_Xi l yX6_bleach cX6_bleach 5 (some .int) 10 2 12 D cs base ad (x_n nS nB nC nO) (x_s nS nB nC nO nS nC) σ [.ref (ad 6 0), .int a, .int b] (q_X6_bleach σ a b nB) (fun σ' => x_U D cs base ad (x_n nS nB nC nO) (x_s nS nB nC nO nS nC) σ') (fun E => (E = x_nse ∧ ¬ (0 ≤ a ∧ a < σ 6 0 1)) ∨ (E = x_iae ∧ (0 ≤ a ∧ a < σ 6 0 1) ∧ ¬ (0 ≤ b ∧ b ≤ 9))) := by
  refine vx_ofW (cc := cX6_bleach) (maxL := 5) (ret := some .int) (by decide) rfl ?_
  intro p e s m args below meth c s₁ B hml hout hv
  obtain ⟨rfl, hU⟩ := hv
  have hx := B.exec
  have hb := B.bytes
  have hr := B.returns
  have hts := atoms_spec (ws := Cond.code yX6_bleach cX6_bleach 5 (some .int) :: Tw) B.pre
  have hown : s.vm.findClass RX6 = some m.cls := findClass_of_methodNamed B.named
  have hlocks := B.notSynchronized
  have hc : CallFix p m c cX6_bleach 5 s (([.ref (ad 6 0), .int a, .int b] : List Value).toArray) Tw RX6 := ⟨hx, hb, hml, hown, fun w hw => hts w (List.mem_cons_of_mem _ hw)⟩
  have hw := x_B.start hU
  have hl := lv_entry ([.ref (ad 6 0), .int a, .int b]) (n := 5) (Nat.le_of_ble_eq_true rfl)
  rw [lg_entry_eq]
  generalize (lg_sl ([.ref (ad 6 0), .int a, .int b]) ++ List.replicate (5 - (lg_sl ([.ref (ad 6 0), .int a, .int b])).length) Slot.unset).toArray = ls at hl ⊢
  have hl : lv_has ls 5 [(0, .ref (ad 6 0)), (1, .int a), (2, .int b)] := hl
  show W p l e (x_rm 10 2 12) s m ([.ref (ad 6 0), .int a, .int b] : List Value).toArray below meth c s.heap [] 0 0 (vx_MQ below (va_Qi (q_X6_bleach σ a b nB) (fun σ' => x_U D cs base ad (x_n nS nB nC nO) (x_s nS nB nC nO nS nC) σ') (x_A base)) (x_XC D cs base ad (x_n nS nB nC nO) (x_s nS nB nC nO nS nC) σ (fun E => (E = x_nse ∧ ¬ (0 ≤ a ∧ a < σ 6 0 1)) ∨ (E = x_iae ∧ (0 ≤ a ∧ a < σ 6 0 1) ∧ ¬ (0 ≤ b ∧ b ≤ 9)))) ([.ref (ad 6 0), .int a, .int b] : List Value).toArray s 2 12 (x_A base)) (F0 m 0 ls [])
  refine lv_aload_n hx hb dX6_bleach_0 rfl (lv_at hl 0 rfl) ?_
  refine lv_iload_n hx hb dX6_bleach_1 rfl (lv_at hl 1 rfl) ?_
  refine xc_Xr hc hw 6 0 (c_X6_shellNumbered hl0 a hS hS0) rfl rfl (Nat.zero_lt_one) mw_242 mw_239 mw_1 mw_241 mp_1 xd_X6_shellNumbered ⟨by decide, by decide⟩ (rfl) hl.1 (Nat.le_of_ble_eq_true rfl) dX6_bleach_2 ⟨Nat.le_of_ble_eq_true rfl, Nat.le_of_ble_eq_true rfl⟩ (fun E ce q9 H locs hp hw hq1 hq2 hq3 => ?_) (fun j_2 H locs hq hw => ?_)
  · exact xo_out hout hlocks hw (Or.inl hp) hq1 hq2 hq3 (Nat.le_of_ble_eq_true rfl) (Nat.le_of_ble_eq_true rfl)
  have hq_2 := hq
  obtain ⟨hj1, hj2, hj3⟩ := hq_2
  subst hj2
  refine lv_pop hx hb dX6_bleach_5 rfl ?_
  refine lv_iload_n hx hb dX6_bleach_6 rfl (lv_at hl 2 rfl) ?_
  refine lv_iconst (v := 0) hx hb dX6_bleach_7 (by decide) ?_
  refine lv_bipush (v := 9) hx hb dX6_bleach_8 (by decide) ?_
  refine xc_Si hc hw (c_X6_isWithin b 0 9) mw_128 mw_126 mw_1 mw_127 xd_X6_isWithin ⟨by decide, by decide⟩ (rfl) hl.1 (Nat.le_of_ble_eq_true rfl) dX6_bleach_10 ⟨Nat.le_of_ble_eq_true rfl, Nat.le_of_ble_eq_true rfl⟩ (fun r_10 σ_10 H locs hq hw => ?_)
  obtain ⟨hσ_10, hr_10⟩ := hq
  rw [hσ_10] at hw
  refine lv_if_ne (tgt := 26) hx hb dX6_bleach_13 (by decide) (fun c_13 => ?_) (fun c_13 => ?_)
  · refine lv_iconst (v := 0) hx hb dX6_bleach_26 (by decide) ?_
    refine lv_istore_n (lv' := [(3, .int 0), (0, .ref (ad 6 0)), (1, .int a), (2, .int b)]) hx hb dX6_bleach_27 rfl hl (by decide) rfl (fun ls hl => ?_)
    refine lv_iconst (v := 0) hx hb dX6_bleach_28 (by decide) ?_
    refine lv_istore (lv' := [(4, .int 0), (3, .int 0), (0, .ref (ad 6 0)), (1, .int a), (2, .int b)]) hx hb dX6_bleach_29 hl (by decide) rfl (fun ls hl => ?_)
    have cut_31 : ∀ (N : Nat) (k : Nat) (cn : Nat) (x3 : Int32) (x4 : Int32) (σc : x_St), (k ≤ nB) → (x3 = nI cn) → (x4 = nI k) → (σc 6 0 3 = nI nB) → (f_bl a b (nB - k) k σc cn = (f_bl a b nB 0 σ 0)) → (nB - k < N) → ∀ (H : Heap) (locs : List Loc) (ls : Array Slot), lv_has ls 5 [(0, .ref (ad 6 0)), (1, .int a), (2, .int b), (3, .int x3), (4, .int x4)] → x_B D cs base ad (x_n nS nB nC nO) (x_s nS nB nC nO nS nC) σc s H locs → W p l e (x_rm 10 2 12) s m ([.ref (ad 6 0), .int a, .int b] : List Value).toArray below meth c H locs 1 6 (vx_MQ below (va_Qi (q_X6_bleach σ a b nB) (fun σ' => x_U D cs base ad (x_n nS nB nC nO) (x_s nS nB nC nO nS nC) σ') (x_A base)) (x_XC D cs base ad (x_n nS nB nC nO) (x_s nS nB nC nO nS nC) σ (fun E => (E = x_nse ∧ ¬ (0 ≤ a ∧ a < σ 6 0 1)) ∨ (E = x_iae ∧ (0 ≤ a ∧ a < σ 6 0 1) ∧ ¬ (0 ≤ b ∧ b ≤ 9)))) ([.ref (ad 6 0), .int a, .int b] : List Value).toArray s 2 12 (x_A base)) (F0 m 31 ls []) := by
      intro N
      induction N with
      | zero => intro k cn x3 x4 σc hk h3 h4 hB1 hI hN; exact absurd hN (Nat.not_lt_zero _)
      | succ N ih_31 =>
        intro k cn x3 x4 σc hk h3 h4 hB1 hI hN H locs ls hl hw
        refine lv_iload hx hb dX6_bleach_31 (lv_at hl 4 rfl) ?_
        refine lv_aload_n hx hb dX6_bleach_33 rfl (lv_at hl 0 rfl) ?_
        refine xg_i hc hw 6 0 3 rfl rfl rfl rfl (by decide) (Nat.zero_lt_one) mw_82 dX6_bleach_34 ?_
        refine lv_icmp_ge (tgt := 77) hx hb dX6_bleach_37 (by decide) (fun c_37 => ?_) (fun c_37 => ?_)
        · refine lv_iload_n hx hb dX6_bleach_77 rfl (lv_at hl 3 rfl) ?_
          exact xr_xi hc hlocks hr rfl hw (by have hz := x_ge h4 hB1 (by omega) (by omega) c_37; rw [show nB - k = 0 by omega, f_bl] at hI; rw [q_X6_bleach, ← hI]; exact ⟨⟨hj3, x_if1 hr_10 c_13⟩, h3, rfl⟩) (Nat.le_of_ble_eq_true rfl) (Nat.le_of_ble_eq_true rfl) dX6_bleach_78
        · have hlt : k < nB := x_nge h4 hB1 (by omega) (by omega) c_37
          have hst : nB - k = (nB - (k + 1)) + 1 := by omega
          rw [hst, f_bl] at hI
          have cut_71 : ∀ (cm : Nat) (y3 : Int32) (σd : x_St), (y3 = nI cm) → (σd 6 0 3 = nI nB) → (f_bl a b (nB - (k + 1)) (k + 1) σd cm = (f_bl a b nB 0 σ 0)) → ∀ (H : Heap) (locs : List Loc) (ls : Array Slot), lv_has ls 5 [(0, .ref (ad 6 0)), (1, .int a), (2, .int b), (3, .int y3), (4, .int x4)] → x_B D cs base ad (x_n nS nB nC nO) (x_s nS nB nC nO nS nC) σd s H locs → W p l e (x_rm 10 2 12) s m ([.ref (ad 6 0), .int a, .int b] : List Value).toArray below meth c H locs 1 6 (vx_MQ below (va_Qi (q_X6_bleach σ a b nB) (fun σ' => x_U D cs base ad (x_n nS nB nC nO) (x_s nS nB nC nO nS nC) σ') (x_A base)) (x_XC D cs base ad (x_n nS nB nC nO) (x_s nS nB nC nO nS nC) σ (fun E => (E = x_nse ∧ ¬ (0 ≤ a ∧ a < σ 6 0 1)) ∨ (E = x_iae ∧ (0 ≤ a ∧ a < σ 6 0 1) ∧ ¬ (0 ≤ b ∧ b ≤ 9)))) ([.ref (ad 6 0), .int a, .int b] : List Value).toArray s 2 12 (x_A base)) (F0 m 71 ls []) := by
            intro cm y3 σd h3d hBd hId H locs ls hl hw
            obtain ⟨x4_71, ex4_71⟩ : ∃ y : Int32, y = x4 + 1 := ⟨_, rfl⟩
            refine lv_iinc (v := x4_71) (lv' := [(4, .int x4_71), (0, .ref (ad 6 0)), (1, .int a), (2, .int b), (3, .int y3)]) hx hb dX6_bleach_71 hl (k := 4) rfl (by rw [ex4_71]; rfl) (by decide) rfl (fun ls hl => ?_)
            refine lv_goto (tgt := 31) hx hb dX6_bleach_74 (by decide) ?_
            exact ih_31 (k + 1) cm _ _ _ (by omega) (h3d) (by rw [ex4_71, h4, nI_1]) (hBd) (hId) (by omega) _ _ _ (lv_sub hl [1, 2, 3, 4, 0] rfl) hw
          refine lv_aload_n hx hb dX6_bleach_40 rfl (lv_at hl 0 rfl) ?_
          refine xg_r hc hw 6 0 2 rfl rfl rfl rfl (by decide) (Nat.zero_lt_one) (Nat.zero_lt_one) mw_81 dX6_bleach_41 ?_
          refine lv_iload hx hb dX6_bleach_44 (lv_at hl 4 rfl) ?_
          refine xa_rld hc hw 21 0 k rfl (Nat.zero_lt_one) (h4) (by show _ < 400; omega) (hlt) dX6_bleach_46 ?_
          refine xg_i hc hw 0 k 3 rfl rfl rfl rfl (by decide) (hlt) mw_430 dX6_bleach_47 ?_
          refine lv_iload_n hx hb dX6_bleach_50 rfl (lv_at hl 1 rfl) ?_
          refine lv_icmp_ne (tgt := 71) hx hb dX6_bleach_51 (by decide) (fun c_51 => ?_) (fun c_51 => ?_)
          · exact cut_71 cn _ _ (h3) (hB1) (by rw [if_neg c_51] at hI; exact hI) _ _ _ (lv_sub hl [0, 1, 2, 3, 4] rfl) hw
          · refine lv_aload_n hx hb dX6_bleach_54 rfl (lv_at hl 0 rfl) ?_
            refine xg_r hc hw 6 0 2 rfl rfl rfl rfl (by decide) (Nat.zero_lt_one) (Nat.zero_lt_one) mw_81 dX6_bleach_55 ?_
            refine lv_iload hx hb dX6_bleach_58 (lv_at hl 4 rfl) ?_
            refine xa_rld hc hw 21 0 k rfl (Nat.zero_lt_one) (h4) (by show _ < 400; omega) (hlt) dX6_bleach_60 ?_
            refine lv_iload_n hx hb dX6_bleach_61 rfl (lv_at hl 2 rfl) ?_
            refine xc_Vi hc hw 0 k (c_X0_pales k b (hlt)) rfl rfl (hlt) mw_544 mw_541 mw_13 mw_542 mw_543 xd_X0_pales ⟨by decide, by decide⟩ (rfl) hl.1 (Nat.le_of_ble_eq_true rfl) dX6_bleach_62 ⟨Nat.le_of_ble_eq_true rfl, Nat.le_of_ble_eq_true rfl⟩ (fun r_62 σ_62 H locs hq hw => ?_)
            have hq_62 := hq
            obtain ⟨hσ_62, hr_62⟩ := hq_62
            rw [if_pos c_51] at hI
            refine lv_if_eq (tgt := 71) hx hb dX6_bleach_65 (by decide) (fun c_65 => ?_) (fun c_65 => ?_)
            · exact cut_71 (cn + if f_blc σc k b then 1 else 0) _ _ (by rw [h3, if_neg (x_if0 hr_62 c_65), Nat.add_zero]) (by rw [hσ_62]; split <;> simpa [x_up] using hB1) (by rw [hσ_62]; exact hI) _ _ _ (lv_sub hl [0, 1, 2, 3, 4] rfl) hw
            · obtain ⟨x3_68, ex3_68⟩ : ∃ y : Int32, y = x3 + 1 := ⟨_, rfl⟩
              refine lv_iinc (v := x3_68) (lv' := [(3, .int x3_68), (0, .ref (ad 6 0)), (1, .int a), (2, .int b), (4, .int x4)]) hx hb dX6_bleach_68 hl (k := 3) rfl (by rw [ex3_68]; rfl) (by decide) rfl (fun ls hl => ?_)
              exact cut_71 (cn + if f_blc σc k b then 1 else 0) _ _ (by rw [ex3_68, h3, nI_1, if_pos (x_if1 hr_62 c_65)]) (by rw [hσ_62]; split <;> simpa [x_up] using hB1) (by rw [hσ_62]; exact hI) _ _ _ (lv_sub hl [1, 2, 3, 0, 4] rfl) hw
    exact cut_31 _ 0 0 _ _ _ (Nat.zero_le _) (rfl) (rfl) (hB) (rfl) (Nat.lt_succ_self _) _ _ _ (lv_sub hl [2, 3, 4, 1, 0] rfl) hw
  · exact xk_I hl0 hc hout hlocks hw (is := 205) (text := "hours are 0 to 9") (by decide +kernel) (Or.inr ⟨rfl, hj3, x_if0 hr_10 c_13⟩) dX6_bleach_16 dX6_bleach_19 dX6_bleach_20 dX6_bleach_22 dX6_bleach_25 hl.1 ⟨by decide, Nat.le_of_ble_eq_true rfl, by decide, by decide⟩ (by decide) (by decide)
