def fn_X7_init (n : Nat → Nat) (i : Nat) : Nat → Nat := x_set (x_set (x_set (x_set (x_set (x_set (x_set (x_set (x_set (x_set (x_set (x_set (x_set (x_set (x_set (x_set (x_set (x_set (x_set (x_set (x_set (x_set (x_set (x_set (x_set (x_set (x_set (x_set (x_set (x_set (x_set (x_set (x_set (x_set n 36 (i + 1)) 37 (i + 1)) 38 (i + 1)) 39 (i + 1)) 40 (i + 1)) 41 (i + 1)) 42 (i + 1)) 43 (i + 1)) 44 (i + 1)) 45 (i + 1)) 46 (i + 1)) 47 (i + 1)) 48 (i + 1)) 49 (i + 1)) 50 (i + 1)) 51 (i + 1)) 52 (i + 1)) 53 (i + 1)) 54 (i + 1)) 55 (i + 1)) 56 (i + 1)) 57 (i + 1)) 58 (i + 1)) 59 (i + 1)) 60 (i + 1)) 61 (i + 1)) 62 (i + 1)) 63 (i + 1)) 64 (i + 1)) 65 (i + 1)) 66 (i + 1)) 67 (i + 1)) 68 (i + 1)) 69 (i + 1)
def fs_X7_init (st : Nat → Nat) (i : Nat) : Nat → Nat := x_set (x_set (x_set (x_set (x_set (x_set (x_set (x_set (x_set (x_set (x_set (x_set (x_set (x_set (x_set (x_set (x_set (x_set (x_set (x_set (x_set (x_set (x_set (x_set (x_set (x_set (x_set (x_set (x_set (x_set (x_set (x_set (x_set (x_set st 136 (i + 1)) 137 (i + 1)) 138 (i + 1)) 139 (i + 1)) 140 (i + 1)) 141 (i + 1)) 142 (i + 1)) 143 (i + 1)) 144 (i + 1)) 145 (i + 1)) 146 (i + 1)) 147 (i + 1)) 148 (i + 1)) 149 (i + 1)) 150 (i + 1)) 151 (i + 1)) 152 (i + 1)) 153 (i + 1)) 154 (i + 1)) 155 (i + 1)) 156 (i + 1)) 157 (i + 1)) 158 (i + 1)) 159 (i + 1)) 160 (i + 1)) 161 (i + 1)) 162 (i + 1)) 163 (i + 1)) 164 (i + 1)) 165 (i + 1)) 166 (i + 1)) 167 (i + 1)) 168 (i + 1)) 169 (i + 1)
def f_X7_init (σ : x_St) (i : Nat) : x_St := x_zr (x_zr (x_zr (x_zr (x_zr (x_zr (x_zr (x_zr (x_zr (x_zr (x_zr (x_zr (x_zr (x_zr (x_zr (x_zr (x_zr (x_up (x_up (x_up (x_up (x_up (x_up (x_zr (x_zr (x_zr (x_zr (x_zr (x_zr (x_zr (x_zr (x_zr (x_zr (x_zr (x_zr (x_zr (x_zr (x_zr (x_zr (x_zr σ 36 i) 37 i) 38 i) 39 i) 40 i) 41 i) 42 i) 43 i) 44 i) 45 i) 46 i) 47 i) 48 i) 49 i) 50 i) 51 i) 52 i) 52 i 0 100) 52 i 1 100) 52 i 2 100) 52 i 3 100) 52 i 4 100) 52 i 5 100) 53 i) 54 i) 55 i) 56 i) 57 i) 58 i) 59 i) 60 i) 61 i) 62 i) 63 i) 64 i) 65 i) 66 i) 67 i) 68 i) 69 i
/-- X7_init -/
def q_X7_init (ad : Nat → Nat → Nat) (n : Nat → Nat) : (Nat → Nat → Nat) → Prop := fun ad' => ∀ a b, b < n a → ad' a b = ad a b
set_option maxHeartbeats 4000000 in
set_option maxRecDepth 100000 in
theorem c_X7_init {l : Launch} {D : va_G} {cs : Nat → ClassId} {base : Nat} {ad : Nat → Nat → Nat} {n st : Nat → Nat} {σ : x_St} (i : Nat) (hi : i < n 7) (h36 : n 36 = i) (l36 : st 136 = i) (h37 : n 37 = i) (l37 : st 137 = i) (h38 : n 38 = i) (l38 : st 138 = i) (h39 : n 39 = i) (l39 : st 139 = i) (h40 : n 40 = i) (l40 : st 140 = i) (h41 : n 41 = i) (l41 : st 141 = i) (h42 : n 42 = i) (l42 : st 142 = i) (h43 : n 43 = i) (l43 : st 143 = i) (h44 : n 44 = i) (l44 : st 144 = i) (h45 : n 45 = i) (l45 : st 145 = i) (h46 : n 46 = i) (l46 : st 146 = i) (h47 : n 47 = i) (l47 : st 147 = i) (h48 : n 48 = i) (l48 : st 148 = i) (h49 : n 49 = i) (l49 : st 149 = i) (h50 : n 50 = i) (l50 : st 150 = i) (h51 : n 51 = i) (l51 : st 151 = i) (h52 : n 52 = i) (l52 : st 152 = i) (h53 : n 53 = i) (l53 : st 153 = i) (h54 : n 54 = i) (l54 : st 154 = i) (h55 : n 55 = i) (l55 : st 155 = i) (h56 : n 56 = i) (l56 : st 156 = i) (h57 : n 57 = i) (l57 : st 157 = i) (h58 : n 58 = i) (l58 : st 158 = i) (h59 : n 59 = i) (l59 : st 159 = i) (h60 : n 60 = i) (l60 : st 160 = i) (h61 : n 61 = i) (l61 : st 161 = i) (h62 : n 62 = i) (l62 : st 162 = i) (h63 : n 63 = i) (l63 : st 163 = i) (h64 : n 64 = i) (l64 : st 164 = i) (h65 : n 65 = i) (l65 : st 165 = i) (h66 : n 66 = i) (l66 : st 166 = i) (h67 : n 67 = i) (l67 : st 167 = i) (h68 : n 68 = i) (l68 : st 168 = i) (h69 : n 69 = i) (l69 : st 169 = i) : x_Cv l yX7_init cX7_init 1 1 34 157172 D cs base ad n st σ [.ref (ad 7 i)] (q_X7_init ad n) (fun ad' => x_U D cs base ad' (fn_X7_init n i) (fs_X7_init st i) (f_X7_init σ i)) := by
  refine Met.ofW (cc := cX7_init) (maxL := 1) (ret := none) (by decide) rfl ?_
  intro p e s m args below meth c s₁ B hml hv
  obtain ⟨rfl, hU⟩ := hv
  have hx := B.exec
  have hb := B.bytes
  have hr := B.returns
  have hts := atoms_spec (ws := Cond.code yX7_init cX7_init 1 (none) :: Tw) B.pre
  have hown : s.vm.findClass RX7 = some m.cls := findClass_of_methodNamed B.named
  have hlocks := B.notSynchronized
  have hc : CallFix p m c cX7_init 1 s (([.ref (ad 7 i)] : List Value).toArray) Tw RX7 := ⟨hx, hb, hml, hown, fun w hw => hts w (List.mem_cons_of_mem _ hw)⟩
  have hw := x_B.start hU
  have hl := lv_entry ([.ref (ad 7 i)]) (n := 1) (Nat.le_of_ble_eq_true rfl)
  rw [lg_entry_eq]
  generalize (lg_sl ([.ref (ad 7 i)]) ++ List.replicate (1 - (lg_sl ([.ref (ad 7 i)])).length) Slot.unset).toArray = ls at hl ⊢
  have hl : lv_has ls 1 [(0, .ref (ad 7 i))] := hl
  generalize ([.ref (ad 7 i)] : List Value).toArray = args at hc ⊢
  have hin : meth.name = "<init>" := (name_of_methodNamed B.named B.method).1
  show W p l e (x_rm 1 34 157172) s m args below meth c s.heap [] 0 0 (MQ below (va_Qv (q_X7_init ad n) (fun ad' => x_U D cs base ad' (fn_X7_init n i) (fs_X7_init st i) (f_X7_init σ i)) (x_A base)) args s 34 157172 (x_A base)) (F0 m 0 ls [])
  refine lv_aload_n hx hb dX7_init_0 rfl (lv_at hl 0 rfl) ?_
  refine xo_init hc mw_685 hl.1 (Nat.le_of_ble_eq_true rfl) ⟨by decide, by decide⟩ dX7_init_1 ?_
  refine lv_aload_n hx hb dX7_init_4 rfl (lv_at hl 0 rfl) ?_
  refine lv_bipush (v := 30) hx hb dX7_init_5 (by decide) ?_
  refine xn_iarr hc hw 36 i rfl (by decide) (h36) (Nat.le_of_eq l36) rfl (by decide +kernel) (by decide +kernel) dX7_init_7 (fun ad_7 H hag_7 hw => ?_)
  have hl : lv_has ls 1 [(0, .ref (ad_7 7 i))] := by rw [hag_7 7 i (fun z => absurd z.1 (by decide))]; exact hl
  rw [← hag_7 7 i (fun z => absurd z.1 (by decide))]
  refine xp_L hc hw hin 7 i 6 36 rfl rfl rfl rfl (by decide) (by decide) (hi) (l36) rfl rfl (ty := .array .int) (by decide +kernel) rfl rfl mw_693 dX7_init_9 (fun H locs hw => ?_)
  refine lv_aload_n hx hb dX7_init_12 rfl (lv_at hl 0 rfl) ?_
  refine lv_bipush (v := 30) hx hb dX7_init_13 (by decide) ?_
  refine xn_iarr hc hw 37 i rfl (by decide) (h37) (Nat.le_of_eq l37) rfl (by decide +kernel) (by decide +kernel) dX7_init_15 (fun ad_15 H hag_15 hw => ?_)
  have hl : lv_has ls 1 [(0, .ref (ad_15 7 i))] := by rw [hag_15 7 i (fun z => absurd z.1 (by decide))]; exact hl
  rw [← hag_15 7 i (fun z => absurd z.1 (by decide))]
  refine xp_L hc hw hin 7 i 7 37 rfl rfl rfl rfl (by decide) (by decide) (hi) (l37) rfl rfl (ty := .array .int) (by decide +kernel) rfl rfl mw_694 dX7_init_17 (fun H locs hw => ?_)
  refine lv_aload_n hx hb dX7_init_20 rfl (lv_at hl 0 rfl) ?_
  refine lv_bipush (v := 30) hx hb dX7_init_21 (by decide) ?_
  refine xn_iarr hc hw 38 i rfl (by decide) (h38) (Nat.le_of_eq l38) rfl (by decide +kernel) (by decide +kernel) dX7_init_23 (fun ad_23 H hag_23 hw => ?_)
  have hl : lv_has ls 1 [(0, .ref (ad_23 7 i))] := by rw [hag_23 7 i (fun z => absurd z.1 (by decide))]; exact hl
  rw [← hag_23 7 i (fun z => absurd z.1 (by decide))]
  refine xp_L hc hw hin 7 i 8 38 rfl rfl rfl rfl (by decide) (by decide) (hi) (l38) rfl rfl (ty := .array .int) (by decide +kernel) rfl rfl mw_695 dX7_init_25 (fun H locs hw => ?_)
  refine lv_aload_n hx hb dX7_init_28 rfl (lv_at hl 0 rfl) ?_
  refine lv_sipush (v := 1080) hx hb dX7_init_29 (by decide) ?_
  refine xn_iarr hc hw 39 i rfl (by decide) (h39) (Nat.le_of_eq l39) rfl (by decide +kernel) (by decide +kernel) dX7_init_32 (fun ad_32 H hag_32 hw => ?_)
  have hl : lv_has ls 1 [(0, .ref (ad_32 7 i))] := by rw [hag_32 7 i (fun z => absurd z.1 (by decide))]; exact hl
  rw [← hag_32 7 i (fun z => absurd z.1 (by decide))]
  refine xp_L hc hw hin 7 i 9 39 rfl rfl rfl rfl (by decide) (by decide) (hi) (l39) rfl rfl (ty := .array .int) (by decide +kernel) rfl rfl mw_696 dX7_init_34 (fun H locs hw => ?_)
  refine lv_aload_n hx hb dX7_init_37 rfl (lv_at hl 0 rfl) ?_
  refine lv_bipush (v := 30) hx hb dX7_init_38 (by decide) ?_
  refine xn_zarr hc hw 40 i rfl (by decide) (h40) (Nat.le_of_eq l40) rfl (by decide +kernel) (by decide +kernel) dX7_init_40 (fun ad_40 H hag_40 hw => ?_)
  have hl : lv_has ls 1 [(0, .ref (ad_40 7 i))] := by rw [hag_40 7 i (fun z => absurd z.1 (by decide))]; exact hl
  rw [← hag_40 7 i (fun z => absurd z.1 (by decide))]
  refine xp_L hc hw hin 7 i 10 40 rfl rfl rfl rfl (by decide) (by decide) (hi) (l40) rfl rfl (ty := .array .boolean) (by decide +kernel) rfl rfl mw_697 dX7_init_42 (fun H locs hw => ?_)
  refine lv_aload_n hx hb dX7_init_45 rfl (lv_at hl 0 rfl) ?_
  refine lv_bipush (v := 40) hx hb dX7_init_46 (by decide) ?_
  refine xn_iarr hc hw 41 i rfl (by decide) (h41) (Nat.le_of_eq l41) rfl (by decide +kernel) (by decide +kernel) dX7_init_48 (fun ad_48 H hag_48 hw => ?_)
  have hl : lv_has ls 1 [(0, .ref (ad_48 7 i))] := by rw [hag_48 7 i (fun z => absurd z.1 (by decide))]; exact hl
  rw [← hag_48 7 i (fun z => absurd z.1 (by decide))]
  refine xp_L hc hw hin 7 i 11 41 rfl rfl rfl rfl (by decide) (by decide) (hi) (l41) rfl rfl (ty := .array .int) (by decide +kernel) rfl rfl mw_698 dX7_init_50 (fun H locs hw => ?_)
  refine lv_aload_n hx hb dX7_init_53 rfl (lv_at hl 0 rfl) ?_
  refine lv_sipush (v := 400) hx hb dX7_init_54 (by decide) ?_
  refine xn_iarr hc hw 42 i rfl (by decide) (h42) (Nat.le_of_eq l42) rfl (by decide +kernel) (by decide +kernel) dX7_init_57 (fun ad_57 H hag_57 hw => ?_)
  have hl : lv_has ls 1 [(0, .ref (ad_57 7 i))] := by rw [hag_57 7 i (fun z => absurd z.1 (by decide))]; exact hl
  rw [← hag_57 7 i (fun z => absurd z.1 (by decide))]
  refine xp_L hc hw hin 7 i 12 42 rfl rfl rfl rfl (by decide) (by decide) (hi) (l42) rfl rfl (ty := .array .int) (by decide +kernel) rfl rfl mw_699 dX7_init_59 (fun H locs hw => ?_)
  refine lv_aload_n hx hb dX7_init_62 rfl (lv_at hl 0 rfl) ?_
  refine lv_sipush (v := 400) hx hb dX7_init_63 (by decide) ?_
  refine xn_iarr hc hw 43 i rfl (by decide) (h43) (Nat.le_of_eq l43) rfl (by decide +kernel) (by decide +kernel) dX7_init_66 (fun ad_66 H hag_66 hw => ?_)
  have hl : lv_has ls 1 [(0, .ref (ad_66 7 i))] := by rw [hag_66 7 i (fun z => absurd z.1 (by decide))]; exact hl
  rw [← hag_66 7 i (fun z => absurd z.1 (by decide))]
  refine xp_L hc hw hin 7 i 13 43 rfl rfl rfl rfl (by decide) (by decide) (hi) (l43) rfl rfl (ty := .array .int) (by decide +kernel) rfl rfl mw_700 dX7_init_68 (fun H locs hw => ?_)
  refine lv_aload_n hx hb dX7_init_71 rfl (lv_at hl 0 rfl) ?_
  refine lv_sipush (v := 400) hx hb dX7_init_72 (by decide) ?_
  refine xn_iarr hc hw 44 i rfl (by decide) (h44) (Nat.le_of_eq l44) rfl (by decide +kernel) (by decide +kernel) dX7_init_75 (fun ad_75 H hag_75 hw => ?_)
  have hl : lv_has ls 1 [(0, .ref (ad_75 7 i))] := by rw [hag_75 7 i (fun z => absurd z.1 (by decide))]; exact hl
  rw [← hag_75 7 i (fun z => absurd z.1 (by decide))]
  refine xp_L hc hw hin 7 i 14 44 rfl rfl rfl rfl (by decide) (by decide) (hi) (l44) rfl rfl (ty := .array .int) (by decide +kernel) rfl rfl mw_701 dX7_init_77 (fun H locs hw => ?_)
  refine lv_aload_n hx hb dX7_init_80 rfl (lv_at hl 0 rfl) ?_
  refine lv_sipush (v := 400) hx hb dX7_init_81 (by decide) ?_
  refine xn_iarr hc hw 45 i rfl (by decide) (h45) (Nat.le_of_eq l45) rfl (by decide +kernel) (by decide +kernel) dX7_init_84 (fun ad_84 H hag_84 hw => ?_)
  have hl : lv_has ls 1 [(0, .ref (ad_84 7 i))] := by rw [hag_84 7 i (fun z => absurd z.1 (by decide))]; exact hl
  rw [← hag_84 7 i (fun z => absurd z.1 (by decide))]
  refine xp_L hc hw hin 7 i 15 45 rfl rfl rfl rfl (by decide) (by decide) (hi) (l45) rfl rfl (ty := .array .int) (by decide +kernel) rfl rfl mw_702 dX7_init_86 (fun H locs hw => ?_)
  refine lv_aload_n hx hb dX7_init_89 rfl (lv_at hl 0 rfl) ?_
  refine lv_sipush (v := 400) hx hb dX7_init_90 (by decide) ?_
  refine xn_iarr hc hw 46 i rfl (by decide) (h46) (Nat.le_of_eq l46) rfl (by decide +kernel) (by decide +kernel) dX7_init_93 (fun ad_93 H hag_93 hw => ?_)
  have hl : lv_has ls 1 [(0, .ref (ad_93 7 i))] := by rw [hag_93 7 i (fun z => absurd z.1 (by decide))]; exact hl
  rw [← hag_93 7 i (fun z => absurd z.1 (by decide))]
  refine xp_L hc hw hin 7 i 16 46 rfl rfl rfl rfl (by decide) (by decide) (hi) (l46) rfl rfl (ty := .array .int) (by decide +kernel) rfl rfl mw_703 dX7_init_95 (fun H locs hw => ?_)
  refine lv_aload_n hx hb dX7_init_98 rfl (lv_at hl 0 rfl) ?_
  refine lv_sipush (v := 400) hx hb dX7_init_99 (by decide) ?_
  refine xn_iarr hc hw 47 i rfl (by decide) (h47) (Nat.le_of_eq l47) rfl (by decide +kernel) (by decide +kernel) dX7_init_102 (fun ad_102 H hag_102 hw => ?_)
  have hl : lv_has ls 1 [(0, .ref (ad_102 7 i))] := by rw [hag_102 7 i (fun z => absurd z.1 (by decide))]; exact hl
  rw [← hag_102 7 i (fun z => absurd z.1 (by decide))]
  refine xp_L hc hw hin 7 i 17 47 rfl rfl rfl rfl (by decide) (by decide) (hi) (l47) rfl rfl (ty := .array .int) (by decide +kernel) rfl rfl mw_704 dX7_init_104 (fun H locs hw => ?_)
  refine lv_aload_n hx hb dX7_init_107 rfl (lv_at hl 0 rfl) ?_
  refine lv_sipush (v := 400) hx hb dX7_init_108 (by decide) ?_
  refine xn_iarr hc hw 48 i rfl (by decide) (h48) (Nat.le_of_eq l48) rfl (by decide +kernel) (by decide +kernel) dX7_init_111 (fun ad_111 H hag_111 hw => ?_)
  have hl : lv_has ls 1 [(0, .ref (ad_111 7 i))] := by rw [hag_111 7 i (fun z => absurd z.1 (by decide))]; exact hl
  rw [← hag_111 7 i (fun z => absurd z.1 (by decide))]
  refine xp_L hc hw hin 7 i 18 48 rfl rfl rfl rfl (by decide) (by decide) (hi) (l48) rfl rfl (ty := .array .int) (by decide +kernel) rfl rfl mw_705 dX7_init_113 (fun H locs hw => ?_)
  refine lv_aload_n hx hb dX7_init_116 rfl (lv_at hl 0 rfl) ?_
  refine lv_sipush (v := 400) hx hb dX7_init_117 (by decide) ?_
  refine xn_iarr hc hw 49 i rfl (by decide) (h49) (Nat.le_of_eq l49) rfl (by decide +kernel) (by decide +kernel) dX7_init_120 (fun ad_120 H hag_120 hw => ?_)
  have hl : lv_has ls 1 [(0, .ref (ad_120 7 i))] := by rw [hag_120 7 i (fun z => absurd z.1 (by decide))]; exact hl
  rw [← hag_120 7 i (fun z => absurd z.1 (by decide))]
  refine xp_L hc hw hin 7 i 19 49 rfl rfl rfl rfl (by decide) (by decide) (hi) (l49) rfl rfl (ty := .array .int) (by decide +kernel) rfl rfl mw_706 dX7_init_122 (fun H locs hw => ?_)
  refine lv_aload_n hx hb dX7_init_125 rfl (lv_at hl 0 rfl) ?_
  refine lv_sipush (v := 400) hx hb dX7_init_126 (by decide) ?_
  refine xn_iarr hc hw 50 i rfl (by decide) (h50) (Nat.le_of_eq l50) rfl (by decide +kernel) (by decide +kernel) dX7_init_129 (fun ad_129 H hag_129 hw => ?_)
  have hl : lv_has ls 1 [(0, .ref (ad_129 7 i))] := by rw [hag_129 7 i (fun z => absurd z.1 (by decide))]; exact hl
  rw [← hag_129 7 i (fun z => absurd z.1 (by decide))]
  refine xp_L hc hw hin 7 i 20 50 rfl rfl rfl rfl (by decide) (by decide) (hi) (l50) rfl rfl (ty := .array .int) (by decide +kernel) rfl rfl mw_707 dX7_init_131 (fun H locs hw => ?_)
  refine lv_aload_n hx hb dX7_init_134 rfl (lv_at hl 0 rfl) ?_
  refine lv_bipush (v := 6) hx hb dX7_init_135 (by decide) ?_
  refine xn_iarr hc hw 51 i rfl (by decide) (h51) (Nat.le_of_eq l51) rfl (by decide +kernel) (by decide +kernel) dX7_init_137 (fun ad_137 H hag_137 hw => ?_)
  have hl : lv_has ls 1 [(0, .ref (ad_137 7 i))] := by rw [hag_137 7 i (fun z => absurd z.1 (by decide))]; exact hl
  rw [← hag_137 7 i (fun z => absurd z.1 (by decide))]
  refine xp_L hc hw hin 7 i 21 51 rfl rfl rfl rfl (by decide) (by decide) (hi) (l51) rfl rfl (ty := .array .int) (by decide +kernel) rfl rfl mw_708 dX7_init_139 (fun H locs hw => ?_)
  refine lv_aload_n hx hb dX7_init_142 rfl (lv_at hl 0 rfl) ?_
  refine lv_bipush (v := 6) hx hb dX7_init_143 (by decide) ?_
  refine xn_iarr hc hw 52 i rfl (by decide) (h52) (Nat.le_of_eq l52) rfl (by decide +kernel) (by decide +kernel) dX7_init_145 (fun ad_145 H hag_145 hw => ?_)
  have hl : lv_has ls 1 [(0, .ref (ad_145 7 i))] := by rw [hag_145 7 i (fun z => absurd z.1 (by decide))]; exact hl
  rw [← hag_145 7 i (fun z => absurd z.1 (by decide))]
  refine lv_dup hx hb dX7_init_147 rfl ?_
  refine lv_iconst (v := 0) hx hb dX7_init_148 (by decide) ?_
  refine lv_bipush (v := 100) hx hb dX7_init_149 (by decide) ?_
  refine xa_st hc hw 52 i 0 rfl (Nat.lt_succ_self _) (rfl) (by decide) dX7_init_151 (fun H locs hw => ?_)
  refine lv_dup hx hb dX7_init_152 rfl ?_
  refine lv_iconst (v := 1) hx hb dX7_init_153 (by decide) ?_
  refine lv_bipush (v := 100) hx hb dX7_init_154 (by decide) ?_
  refine xa_st hc hw 52 i 1 rfl (Nat.lt_succ_self _) (rfl) (by decide) dX7_init_156 (fun H locs hw => ?_)
  refine lv_dup hx hb dX7_init_157 rfl ?_
  refine lv_iconst (v := 2) hx hb dX7_init_158 (by decide) ?_
  refine lv_bipush (v := 100) hx hb dX7_init_159 (by decide) ?_
  refine xa_st hc hw 52 i 2 rfl (Nat.lt_succ_self _) (rfl) (by decide) dX7_init_161 (fun H locs hw => ?_)
  refine lv_dup hx hb dX7_init_162 rfl ?_
  refine lv_iconst (v := 3) hx hb dX7_init_163 (by decide) ?_
  refine lv_bipush (v := 100) hx hb dX7_init_164 (by decide) ?_
  refine xa_st hc hw 52 i 3 rfl (Nat.lt_succ_self _) (rfl) (by decide) dX7_init_166 (fun H locs hw => ?_)
  refine lv_dup hx hb dX7_init_167 rfl ?_
  refine lv_iconst (v := 4) hx hb dX7_init_168 (by decide) ?_
  refine lv_bipush (v := 100) hx hb dX7_init_169 (by decide) ?_
  refine xa_st hc hw 52 i 4 rfl (Nat.lt_succ_self _) (rfl) (by decide) dX7_init_171 (fun H locs hw => ?_)
  refine lv_dup hx hb dX7_init_172 rfl ?_
  refine lv_iconst (v := 5) hx hb dX7_init_173 (by decide) ?_
  refine lv_bipush (v := 100) hx hb dX7_init_174 (by decide) ?_
  refine xa_st hc hw 52 i 5 rfl (Nat.lt_succ_self _) (rfl) (by decide) dX7_init_176 (fun H locs hw => ?_)
  refine xp_L hc hw hin 7 i 22 52 rfl rfl rfl rfl (by decide) (by decide) (hi) (l52) rfl rfl (ty := .array .int) (by decide +kernel) rfl rfl mw_709 dX7_init_177 (fun H locs hw => ?_)
  refine lv_aload_n hx hb dX7_init_180 rfl (lv_at hl 0 rfl) ?_
  refine lv_bipush (v := 6) hx hb dX7_init_181 (by decide) ?_
  refine xn_iarr hc hw 53 i rfl (by decide) (h53) (Nat.le_of_eq l53) rfl (by decide +kernel) (by decide +kernel) dX7_init_183 (fun ad_183 H hag_183 hw => ?_)
  have hl : lv_has ls 1 [(0, .ref (ad_183 7 i))] := by rw [hag_183 7 i (fun z => absurd z.1 (by decide))]; exact hl
  rw [← hag_183 7 i (fun z => absurd z.1 (by decide))]
  refine xp_L hc hw hin 7 i 23 53 rfl rfl rfl rfl (by decide) (by decide) (hi) (l53) rfl rfl (ty := .array .int) (by decide +kernel) rfl rfl mw_710 dX7_init_185 (fun H locs hw => ?_)
  refine lv_aload_n hx hb dX7_init_188 rfl (lv_at hl 0 rfl) ?_
  refine lv_bipush (v := 6) hx hb dX7_init_189 (by decide) ?_
  refine xn_iarr hc hw 54 i rfl (by decide) (h54) (Nat.le_of_eq l54) rfl (by decide +kernel) (by decide +kernel) dX7_init_191 (fun ad_191 H hag_191 hw => ?_)
  have hl : lv_has ls 1 [(0, .ref (ad_191 7 i))] := by rw [hag_191 7 i (fun z => absurd z.1 (by decide))]; exact hl
  rw [← hag_191 7 i (fun z => absurd z.1 (by decide))]
  refine xp_L hc hw hin 7 i 24 54 rfl rfl rfl rfl (by decide) (by decide) (hi) (l54) rfl rfl (ty := .array .int) (by decide +kernel) rfl rfl mw_711 dX7_init_193 (fun H locs hw => ?_)
  refine lv_aload_n hx hb dX7_init_196 rfl (lv_at hl 0 rfl) ?_
  refine lv_bipush (v := 30) hx hb dX7_init_197 (by decide) ?_
  refine xn_iarr hc hw 55 i rfl (by decide) (h55) (Nat.le_of_eq l55) rfl (by decide +kernel) (by decide +kernel) dX7_init_199 (fun ad_199 H hag_199 hw => ?_)
  have hl : lv_has ls 1 [(0, .ref (ad_199 7 i))] := by rw [hag_199 7 i (fun z => absurd z.1 (by decide))]; exact hl
  rw [← hag_199 7 i (fun z => absurd z.1 (by decide))]
  refine xp_L hc hw hin 7 i 25 55 rfl rfl rfl rfl (by decide) (by decide) (hi) (l55) rfl rfl (ty := .array .int) (by decide +kernel) rfl rfl mw_712 dX7_init_201 (fun H locs hw => ?_)
  refine lv_aload_n hx hb dX7_init_204 rfl (lv_at hl 0 rfl) ?_
  refine lv_bipush (v := 30) hx hb dX7_init_205 (by decide) ?_
  refine xn_iarr hc hw 56 i rfl (by decide) (h56) (Nat.le_of_eq l56) rfl (by decide +kernel) (by decide +kernel) dX7_init_207 (fun ad_207 H hag_207 hw => ?_)
  have hl : lv_has ls 1 [(0, .ref (ad_207 7 i))] := by rw [hag_207 7 i (fun z => absurd z.1 (by decide))]; exact hl
  rw [← hag_207 7 i (fun z => absurd z.1 (by decide))]
  refine xp_L hc hw hin 7 i 26 56 rfl rfl rfl rfl (by decide) (by decide) (hi) (l56) rfl rfl (ty := .array .int) (by decide +kernel) rfl rfl mw_713 dX7_init_209 (fun H locs hw => ?_)
  refine lv_aload_n hx hb dX7_init_212 rfl (lv_at hl 0 rfl) ?_
  refine lv_bipush (v := 30) hx hb dX7_init_213 (by decide) ?_
  refine xn_iarr hc hw 57 i rfl (by decide) (h57) (Nat.le_of_eq l57) rfl (by decide +kernel) (by decide +kernel) dX7_init_215 (fun ad_215 H hag_215 hw => ?_)
  have hl : lv_has ls 1 [(0, .ref (ad_215 7 i))] := by rw [hag_215 7 i (fun z => absurd z.1 (by decide))]; exact hl
  rw [← hag_215 7 i (fun z => absurd z.1 (by decide))]
  refine xp_L hc hw hin 7 i 27 57 rfl rfl rfl rfl (by decide) (by decide) (hi) (l57) rfl rfl (ty := .array .int) (by decide +kernel) rfl rfl mw_714 dX7_init_217 (fun H locs hw => ?_)
  refine lv_aload_n hx hb dX7_init_220 rfl (lv_at hl 0 rfl) ?_
  refine lv_bipush (v := 30) hx hb dX7_init_221 (by decide) ?_
  refine xn_iarr hc hw 58 i rfl (by decide) (h58) (Nat.le_of_eq l58) rfl (by decide +kernel) (by decide +kernel) dX7_init_223 (fun ad_223 H hag_223 hw => ?_)
  have hl : lv_has ls 1 [(0, .ref (ad_223 7 i))] := by rw [hag_223 7 i (fun z => absurd z.1 (by decide))]; exact hl
  rw [← hag_223 7 i (fun z => absurd z.1 (by decide))]
  refine xp_L hc hw hin 7 i 28 58 rfl rfl rfl rfl (by decide) (by decide) (hi) (l58) rfl rfl (ty := .array .int) (by decide +kernel) rfl rfl mw_715 dX7_init_225 (fun H locs hw => ?_)
  refine lv_aload_n hx hb dX7_init_228 rfl (lv_at hl 0 rfl) ?_
  refine lv_sipush (v := 360) hx hb dX7_init_229 (by decide) ?_
  refine xn_iarr hc hw 59 i rfl (by decide) (h59) (Nat.le_of_eq l59) rfl (by decide +kernel) (by decide +kernel) dX7_init_232 (fun ad_232 H hag_232 hw => ?_)
  have hl : lv_has ls 1 [(0, .ref (ad_232 7 i))] := by rw [hag_232 7 i (fun z => absurd z.1 (by decide))]; exact hl
  rw [← hag_232 7 i (fun z => absurd z.1 (by decide))]
  refine xp_L hc hw hin 7 i 29 59 rfl rfl rfl rfl (by decide) (by decide) (hi) (l59) rfl rfl (ty := .array .int) (by decide +kernel) rfl rfl mw_716 dX7_init_234 (fun H locs hw => ?_)
  refine lv_aload_n hx hb dX7_init_237 rfl (lv_at hl 0 rfl) ?_
  refine lv_bipush (v := 30) hx hb dX7_init_238 (by decide) ?_
  refine xn_iarr hc hw 60 i rfl (by decide) (h60) (Nat.le_of_eq l60) rfl (by decide +kernel) (by decide +kernel) dX7_init_240 (fun ad_240 H hag_240 hw => ?_)
  have hl : lv_has ls 1 [(0, .ref (ad_240 7 i))] := by rw [hag_240 7 i (fun z => absurd z.1 (by decide))]; exact hl
  rw [← hag_240 7 i (fun z => absurd z.1 (by decide))]
  refine xp_L hc hw hin 7 i 30 60 rfl rfl rfl rfl (by decide) (by decide) (hi) (l60) rfl rfl (ty := .array .int) (by decide +kernel) rfl rfl mw_717 dX7_init_242 (fun H locs hw => ?_)
  refine lv_aload_n hx hb dX7_init_245 rfl (lv_at hl 0 rfl) ?_
  refine lv_bipush (v := 30) hx hb dX7_init_246 (by decide) ?_
  refine xn_iarr hc hw 61 i rfl (by decide) (h61) (Nat.le_of_eq l61) rfl (by decide +kernel) (by decide +kernel) dX7_init_248 (fun ad_248 H hag_248 hw => ?_)
  have hl : lv_has ls 1 [(0, .ref (ad_248 7 i))] := by rw [hag_248 7 i (fun z => absurd z.1 (by decide))]; exact hl
  rw [← hag_248 7 i (fun z => absurd z.1 (by decide))]
  refine xp_L hc hw hin 7 i 31 61 rfl rfl rfl rfl (by decide) (by decide) (hi) (l61) rfl rfl (ty := .array .int) (by decide +kernel) rfl rfl mw_718 dX7_init_250 (fun H locs hw => ?_)
  refine lv_aload_n hx hb dX7_init_253 rfl (lv_at hl 0 rfl) ?_
  refine lv_bipush (v := 30) hx hb dX7_init_254 (by decide) ?_
  refine xn_iarr hc hw 62 i rfl (by decide) (h62) (Nat.le_of_eq l62) rfl (by decide +kernel) (by decide +kernel) dX7_init_256 (fun ad_256 H hag_256 hw => ?_)
  have hl : lv_has ls 1 [(0, .ref (ad_256 7 i))] := by rw [hag_256 7 i (fun z => absurd z.1 (by decide))]; exact hl
  rw [← hag_256 7 i (fun z => absurd z.1 (by decide))]
  refine xp_L hc hw hin 7 i 32 62 rfl rfl rfl rfl (by decide) (by decide) (hi) (l62) rfl rfl (ty := .array .int) (by decide +kernel) rfl rfl mw_719 dX7_init_258 (fun H locs hw => ?_)
  refine lv_aload_n hx hb dX7_init_261 rfl (lv_at hl 0 rfl) ?_
  refine lv_bipush (v := 30) hx hb dX7_init_262 (by decide) ?_
  refine xn_iarr hc hw 63 i rfl (by decide) (h63) (Nat.le_of_eq l63) rfl (by decide +kernel) (by decide +kernel) dX7_init_264 (fun ad_264 H hag_264 hw => ?_)
  have hl : lv_has ls 1 [(0, .ref (ad_264 7 i))] := by rw [hag_264 7 i (fun z => absurd z.1 (by decide))]; exact hl
  rw [← hag_264 7 i (fun z => absurd z.1 (by decide))]
  refine xp_L hc hw hin 7 i 33 63 rfl rfl rfl rfl (by decide) (by decide) (hi) (l63) rfl rfl (ty := .array .int) (by decide +kernel) rfl rfl mw_720 dX7_init_266 (fun H locs hw => ?_)
  refine lv_aload_n hx hb dX7_init_269 rfl (lv_at hl 0 rfl) ?_
  refine lv_bipush (v := 30) hx hb dX7_init_270 (by decide) ?_
  refine xn_iarr hc hw 64 i rfl (by decide) (h64) (Nat.le_of_eq l64) rfl (by decide +kernel) (by decide +kernel) dX7_init_272 (fun ad_272 H hag_272 hw => ?_)
  have hl : lv_has ls 1 [(0, .ref (ad_272 7 i))] := by rw [hag_272 7 i (fun z => absurd z.1 (by decide))]; exact hl
  rw [← hag_272 7 i (fun z => absurd z.1 (by decide))]
  refine xp_L hc hw hin 7 i 34 64 rfl rfl rfl rfl (by decide) (by decide) (hi) (l64) rfl rfl (ty := .array .int) (by decide +kernel) rfl rfl mw_721 dX7_init_274 (fun H locs hw => ?_)
  refine lv_aload_n hx hb dX7_init_277 rfl (lv_at hl 0 rfl) ?_
  refine lv_bipush (v := 30) hx hb dX7_init_278 (by decide) ?_
  refine xn_iarr hc hw 65 i rfl (by decide) (h65) (Nat.le_of_eq l65) rfl (by decide +kernel) (by decide +kernel) dX7_init_280 (fun ad_280 H hag_280 hw => ?_)
  have hl : lv_has ls 1 [(0, .ref (ad_280 7 i))] := by rw [hag_280 7 i (fun z => absurd z.1 (by decide))]; exact hl
  rw [← hag_280 7 i (fun z => absurd z.1 (by decide))]
  refine xp_L hc hw hin 7 i 35 65 rfl rfl rfl rfl (by decide) (by decide) (hi) (l65) rfl rfl (ty := .array .int) (by decide +kernel) rfl rfl mw_722 dX7_init_282 (fun H locs hw => ?_)
  refine lv_aload_n hx hb dX7_init_285 rfl (lv_at hl 0 rfl) ?_
  refine lv_bipush (v := 30) hx hb dX7_init_286 (by decide) ?_
  refine xn_iarr hc hw 66 i rfl (by decide) (h66) (Nat.le_of_eq l66) rfl (by decide +kernel) (by decide +kernel) dX7_init_288 (fun ad_288 H hag_288 hw => ?_)
  have hl : lv_has ls 1 [(0, .ref (ad_288 7 i))] := by rw [hag_288 7 i (fun z => absurd z.1 (by decide))]; exact hl
  rw [← hag_288 7 i (fun z => absurd z.1 (by decide))]
  refine xp_L hc hw hin 7 i 36 66 rfl rfl rfl rfl (by decide) (by decide) (hi) (l66) rfl rfl (ty := .array .int) (by decide +kernel) rfl rfl mw_723 dX7_init_290 (fun H locs hw => ?_)
  refine lv_aload_n hx hb dX7_init_293 rfl (lv_at hl 0 rfl) ?_
  refine lv_bipush (v := 30) hx hb dX7_init_294 (by decide) ?_
  refine xn_iarr hc hw 67 i rfl (by decide) (h67) (Nat.le_of_eq l67) rfl (by decide +kernel) (by decide +kernel) dX7_init_296 (fun ad_296 H hag_296 hw => ?_)
  have hl : lv_has ls 1 [(0, .ref (ad_296 7 i))] := by rw [hag_296 7 i (fun z => absurd z.1 (by decide))]; exact hl
  rw [← hag_296 7 i (fun z => absurd z.1 (by decide))]
  refine xp_L hc hw hin 7 i 37 67 rfl rfl rfl rfl (by decide) (by decide) (hi) (l67) rfl rfl (ty := .array .int) (by decide +kernel) rfl rfl mw_724 dX7_init_298 (fun H locs hw => ?_)
  refine lv_aload_n hx hb dX7_init_301 rfl (lv_at hl 0 rfl) ?_
  refine lv_ldc hx hb hown (hc.2.2.2.2 _ mw_686) dX7_init_302 ?_
  refine xn_iarr hc hw 68 i rfl (by decide) (h68) (Nat.le_of_eq l68) rfl (by decide +kernel) (by decide +kernel) dX7_init_304 (fun ad_304 H hag_304 hw => ?_)
  have hl : lv_has ls 1 [(0, .ref (ad_304 7 i))] := by rw [hag_304 7 i (fun z => absurd z.1 (by decide))]; exact hl
  rw [← hag_304 7 i (fun z => absurd z.1 (by decide))]
  refine xp_L hc hw hin 7 i 38 68 rfl rfl rfl rfl (by decide) (by decide) (hi) (l68) rfl rfl (ty := .array .int) (by decide +kernel) rfl rfl mw_725 dX7_init_306 (fun H locs hw => ?_)
  refine lv_aload_n hx hb dX7_init_309 rfl (lv_at hl 0 rfl) ?_
  refine lv_bipush (v := 36) hx hb dX7_init_310 (by decide) ?_
  refine xn_iarr hc hw 69 i rfl (by decide) (h69) (Nat.le_of_eq l69) rfl (by decide +kernel) (by decide +kernel) dX7_init_312 (fun ad_312 H hag_312 hw => ?_)
  have hl : lv_has ls 1 [(0, .ref (ad_312 7 i))] := by rw [hag_312 7 i (fun z => absurd z.1 (by decide))]; exact hl
  rw [← hag_312 7 i (fun z => absurd z.1 (by decide))]
  refine xp_L hc hw hin 7 i 39 69 rfl rfl rfl rfl (by decide) (by decide) (hi) (l69) rfl rfl (ty := .array .int) (by decide +kernel) rfl rfl mw_726 dX7_init_314 (fun H locs hw => ?_)
  exact xr_v hc hlocks hr hw (fun a b hb => (Eq.trans (x_ag hag_312 (Nat.le_of_eq h69) hb) (Eq.trans (x_ag hag_304 (Nat.le_of_eq h68) hb) (Eq.trans (x_ag hag_296 (Nat.le_of_eq h67) hb) (Eq.trans (x_ag hag_288 (Nat.le_of_eq h66) hb) (Eq.trans (x_ag hag_280 (Nat.le_of_eq h65) hb) (Eq.trans (x_ag hag_272 (Nat.le_of_eq h64) hb) (Eq.trans (x_ag hag_264 (Nat.le_of_eq h63) hb) (Eq.trans (x_ag hag_256 (Nat.le_of_eq h62) hb) (Eq.trans (x_ag hag_248 (Nat.le_of_eq h61) hb) (Eq.trans (x_ag hag_240 (Nat.le_of_eq h60) hb) (Eq.trans (x_ag hag_232 (Nat.le_of_eq h59) hb) (Eq.trans (x_ag hag_223 (Nat.le_of_eq h58) hb) (Eq.trans (x_ag hag_215 (Nat.le_of_eq h57) hb) (Eq.trans (x_ag hag_207 (Nat.le_of_eq h56) hb) (Eq.trans (x_ag hag_199 (Nat.le_of_eq h55) hb) (Eq.trans (x_ag hag_191 (Nat.le_of_eq h54) hb) (Eq.trans (x_ag hag_183 (Nat.le_of_eq h53) hb) (Eq.trans (x_ag hag_145 (Nat.le_of_eq h52) hb) (Eq.trans (x_ag hag_137 (Nat.le_of_eq h51) hb) (Eq.trans (x_ag hag_129 (Nat.le_of_eq h50) hb) (Eq.trans (x_ag hag_120 (Nat.le_of_eq h49) hb) (Eq.trans (x_ag hag_111 (Nat.le_of_eq h48) hb) (Eq.trans (x_ag hag_102 (Nat.le_of_eq h47) hb) (Eq.trans (x_ag hag_93 (Nat.le_of_eq h46) hb) (Eq.trans (x_ag hag_84 (Nat.le_of_eq h45) hb) (Eq.trans (x_ag hag_75 (Nat.le_of_eq h44) hb) (Eq.trans (x_ag hag_66 (Nat.le_of_eq h43) hb) (Eq.trans (x_ag hag_57 (Nat.le_of_eq h42) hb) (Eq.trans (x_ag hag_48 (Nat.le_of_eq h41) hb) (Eq.trans (x_ag hag_40 (Nat.le_of_eq h40) hb) (Eq.trans (x_ag hag_32 (Nat.le_of_eq h39) hb) (Eq.trans (x_ag hag_23 (Nat.le_of_eq h38) hb) (Eq.trans (x_ag hag_15 (Nat.le_of_eq h37) hb) (x_ag hag_7 (Nat.le_of_eq h36) hb))))))))))))))))))))))))))))))))))) (by decide +kernel) (by decide +kernel) dX7_init_317
