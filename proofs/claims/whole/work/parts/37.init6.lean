theorem x_mono {f : Nat → Nat} {k v a b : Nat} (h : b < f a) (hk : f k ≤ v) : b < x_set f k v a := by
  unfold x_set
  split
  · next q => subst q; exact Nat.lt_of_lt_of_le h hk
  · exact h
def fn_X6_init (n : Nat → Nat) : Nat → Nat := x_set (x_set (x_set (x_set (x_set (x_set (x_set (fn_X2_init (x_set (x_set (x_set (x_set (x_set (x_set (x_set n 20 (0 + 1)) 21 (0 + 1)) 22 (0 + 1)) 23 (0 + 1)) 24 (0 + 1)) 18 (0 + 1)) 2 (0 + 1)) 0) 19 (0 + 1)) 3 (0 + 1)) 3 (1 + 1)) 3 (2 + 1)) 3 (3 + 1)) 3 (4 + 1)) 3 (5 + 1)
def fs_X6_init (st : Nat → Nat) : Nat → Nat := x_set (x_set (x_set (x_set (x_set (x_set (x_set (x_set (fs_X2_init (x_set (x_set (x_set (x_set (x_set (x_set st 120 (0 + 1)) 121 (0 + 1)) 122 (0 + 1)) 123 (0 + 1)) 124 (0 + 1)) 118 (0 + 1)) 0) 102 (0 + 1)) 119 (0 + 1)) 22 (0 + 1)) 22 (1 + 1)) 22 (2 + 1)) 22 (3 + 1)) 22 (4 + 1)) 22 (5 + 1)
def f_X6_init (σ : x_St) : x_St := f_X3_init (x_zr (f_X3_init (x_zr (f_X3_init (x_zr (f_X3_init (x_zr (f_X3_init (x_zr (f_X3_init (x_zr (x_up (x_up (x_zr (f_X2_init (x_zr (x_zr (x_up (x_zr (x_up (x_zr (x_zr (x_up (x_zr (x_up (x_zr σ 20 0) 6 0 1 0) 21 0) 6 0 3 0) 22 0) 23 0) 6 0 6 0) 24 0) 6 0 8 0) 18 0) 2 0) 0 ) 19 0) 6 0 12 0) 6 0 13 0) 3 0) 0 ) 3 1) 1 ) 3 2) 2 ) 3 3) 3 ) 3 4) 4 ) 3 5) 5 
/-- X6_init -/
def q_X6_init (ad : Nat → Nat → Nat) (n : Nat → Nat) : (Nat → Nat → Nat) → Prop := fun ad' => ∀ a b, b < n a → ad' a b = ad a b
set_option maxHeartbeats 4000000 in
set_option maxRecDepth 100000 in
theorem c_X6_init {l : Launch} {D : va_G} {cs : Nat → ClassId} {base : Nat} {ad : Nat → Nat → Nat} {n st : Nat → Nat} {σ : x_St} (hi : 0 < n 6) (h20 : n 20 = 0) (l20 : st 120 = 0) (h21 : n 21 = 0) (l21 : st 121 = 0) (h22 : n 22 = 0) (l22 : st 122 = 0) (h23 : n 23 = 0) (l23 : st 123 = 0) (h24 : n 24 = 0) (l24 : st 124 = 0) (h18 : n 18 = 0) (l18 : st 118 = 0) (h19 : n 19 = 0) (l19 : st 119 = 0) (h11 : n 11 = 0) (l11 : st 111 = 0) (h12 : n 12 = 0) (l12 : st 112 = 0) (h13 : n 13 = 0) (l13 : st 113 = 0) (h14 : n 14 = 0) (l14 : st 114 = 0) (h2 : n 2 = 0) (l2 : st 102 = 0) (h3 : n 3 = 0) (l3 : st 103 = 0) (s20 : st 20 = 0) (s21 : st 21 = 0) (s22 : st 22 = 0) (s23 : st 23 = 0) (s24 : st 24 = 0) : x_Cv l yX6_init cX6_init 2 2 18 27025 D cs base ad n st σ [.ref (ad 6 0)] (q_X6_init ad n) (fun ad' => x_U D cs base ad' (fn_X6_init n) (fs_X6_init st) (f_X6_init σ)) := by
  refine Met.ofW (cc := cX6_init) (maxL := 2) (ret := none) (by decide) rfl ?_
  intro p e s m args below meth c s₁ B hml hv
  obtain ⟨rfl, hU⟩ := hv
  have hx := B.exec
  have hb := B.bytes
  have hr := B.returns
  have hts := atoms_spec (ws := Cond.code yX6_init cX6_init 2 (none) :: Tw) B.pre
  have hown : s.vm.findClass RX6 = some m.cls := findClass_of_methodNamed B.named
  have hlocks := B.notSynchronized
  have hc : CallFix p m c cX6_init 2 s (([.ref (ad 6 0)] : List Value).toArray) Tw RX6 := ⟨hx, hb, hml, hown, fun w hw => hts w (List.mem_cons_of_mem _ hw)⟩
  have hw := x_B.start hU
  have hl := lv_entry ([.ref (ad 6 0)]) (n := 2) (Nat.le_of_ble_eq_true rfl)
  rw [lg_entry_eq]
  generalize (lg_sl ([.ref (ad 6 0)]) ++ List.replicate (2 - (lg_sl ([.ref (ad 6 0)])).length) Slot.unset).toArray = ls at hl ⊢
  have hl : lv_has ls 2 [(0, .ref (ad 6 0))] := hl
  generalize ([.ref (ad 6 0)] : List Value).toArray = args at hc ⊢
  have hin : meth.name = "<init>" := (name_of_methodNamed B.named B.method).1
  show W p l e (x_rm 2 18 27025) s m args below meth c s.heap [] 0 0 (MQ below (va_Qv (q_X6_init ad n) (fun ad' => x_U D cs base ad' (fn_X6_init n) (fs_X6_init st) (f_X6_init σ)) (x_A base)) args s 18 27025 (x_A base)) (F0 m 0 ls [])
  refine lv_aload_n hx hb dX6_init_0 rfl (lv_at hl 0 rfl) ?_
  refine xo_init hc mw_21 hl.1 (Nat.le_of_ble_eq_true rfl) ⟨by decide, by decide⟩ dX6_init_1 ?_
  refine lv_aload_n hx hb dX6_init_4 rfl (lv_at hl 0 rfl) ?_
  refine lv_bipush (v := 30) hx hb dX6_init_5 (by decide) ?_
  refine xn_rarr hc hw 20 0 3 rfl (by decide) (h20) (Nat.le_trans (Nat.le_of_eq l20) (Nat.zero_le _)) (s20) rfl mw_24 rfl (by decide +kernel) (by decide +kernel) dX6_init_7 (fun ad_7 H hag_7 hw => ?_)
  have hl : lv_has ls 2 [(0, .ref (ad_7 6 0))] := by rw [hag_7 6 0 (fun z => absurd z.1 (by decide))]; exact hl
  rw [← hag_7 6 0 (fun z => absurd z.1 (by decide))]
  refine xp_L hc hw hin 6 0 0 20 rfl rfl rfl rfl (by decide) (by decide) (hi) (l20) rfl rfl (ty := .array (.object "ButtonWorks$Shell")) (by decide +kernel) rfl rfl mw_79 dX6_init_10 (fun H locs hw => ?_)
  refine lv_aload_n hx hb dX6_init_13 rfl (lv_at hl 0 rfl) ?_
  refine lv_iconst (v := 0) hx hb dX6_init_14 (by decide) ?_
  refine xp_i hc hw 6 0 1 rfl rfl rfl rfl (by decide) (hi) rfl (ty := .int) (by decide +kernel) rfl rfl mw_80 dX6_init_15 (fun H locs hw => ?_)
  refine lv_aload_n hx hb dX6_init_18 rfl (lv_at hl 0 rfl) ?_
  refine lv_sipush (v := 400) hx hb dX6_init_19 (by decide) ?_
  refine xn_rarr hc hw 21 0 4 rfl (by decide) (h21) (Nat.le_trans (Nat.le_of_eq l21) (Nat.zero_le _)) (s21) rfl mw_26 rfl (by decide +kernel) (by decide +kernel) dX6_init_22 (fun ad_22 H hag_22 hw => ?_)
  have hl : lv_has ls 2 [(0, .ref (ad_22 6 0))] := by rw [hag_22 6 0 (fun z => absurd z.1 (by decide))]; exact hl
  rw [← hag_22 6 0 (fun z => absurd z.1 (by decide))]
  refine xp_L hc hw hin 6 0 2 21 rfl rfl rfl rfl (by decide) (by decide) (hi) (l21) rfl rfl (ty := .array (.object "ButtonWorks$Button")) (by decide +kernel) rfl rfl mw_81 dX6_init_25 (fun H locs hw => ?_)
  refine lv_aload_n hx hb dX6_init_28 rfl (lv_at hl 0 rfl) ?_
  refine lv_iconst (v := 0) hx hb dX6_init_29 (by decide) ?_
  refine xp_i hc hw 6 0 3 rfl rfl rfl rfl (by decide) (hi) rfl (ty := .int) (by decide +kernel) rfl rfl mw_82 dX6_init_30 (fun H locs hw => ?_)
  refine lv_aload_n hx hb dX6_init_33 rfl (lv_at hl 0 rfl) ?_
  refine lv_bipush (v := 6) hx hb dX6_init_34 (by decide) ?_
  refine xn_rarr hc hw 22 0 5 rfl (by decide) (h22) (Nat.le_trans (Nat.le_of_eq l22) (Nat.zero_le _)) (s22) rfl mw_28 rfl (by decide +kernel) (by decide +kernel) dX6_init_36 (fun ad_36 H hag_36 hw => ?_)
  have hl : lv_has ls 2 [(0, .ref (ad_36 6 0))] := by rw [hag_36 6 0 (fun z => absurd z.1 (by decide))]; exact hl
  rw [← hag_36 6 0 (fun z => absurd z.1 (by decide))]
  refine xp_L hc hw hin 6 0 4 22 rfl rfl rfl rfl (by decide) (by decide) (hi) (l22) rfl rfl (ty := .array (.object "ButtonWorks$Machine")) (by decide +kernel) rfl rfl mw_83 dX6_init_39 (fun H locs hw => ?_)
  refine lv_aload_n hx hb dX6_init_42 rfl (lv_at hl 0 rfl) ?_
  refine lv_bipush (v := 30) hx hb dX6_init_43 (by decide) ?_
  refine xn_rarr hc hw 23 0 6 rfl (by decide) (h23) (Nat.le_trans (Nat.le_of_eq l23) (Nat.zero_le _)) (s23) rfl mw_30 rfl (by decide +kernel) (by decide +kernel) dX6_init_45 (fun ad_45 H hag_45 hw => ?_)
  have hl : lv_has ls 2 [(0, .ref (ad_45 6 0))] := by rw [hag_45 6 0 (fun z => absurd z.1 (by decide))]; exact hl
  rw [← hag_45 6 0 (fun z => absurd z.1 (by decide))]
  refine xp_L hc hw hin 6 0 5 23 rfl rfl rfl rfl (by decide) (by decide) (hi) (l23) rfl rfl (ty := .array (.object "ButtonWorks$Card")) (by decide +kernel) rfl rfl mw_84 dX6_init_48 (fun H locs hw => ?_)
  refine lv_aload_n hx hb dX6_init_51 rfl (lv_at hl 0 rfl) ?_
  refine lv_iconst (v := 0) hx hb dX6_init_52 (by decide) ?_
  refine xp_i hc hw 6 0 6 rfl rfl rfl rfl (by decide) (hi) rfl (ty := .int) (by decide +kernel) rfl rfl mw_85 dX6_init_53 (fun H locs hw => ?_)
  refine lv_aload_n hx hb dX6_init_56 rfl (lv_at hl 0 rfl) ?_
  refine lv_bipush (v := 30) hx hb dX6_init_57 (by decide) ?_
  refine xn_rarr hc hw 24 0 7 rfl (by decide) (h24) (Nat.le_trans (Nat.le_of_eq l24) (Nat.zero_le _)) (s24) rfl mw_32 rfl (by decide +kernel) (by decide +kernel) dX6_init_59 (fun ad_59 H hag_59 hw => ?_)
  have hl : lv_has ls 2 [(0, .ref (ad_59 6 0))] := by rw [hag_59 6 0 (fun z => absurd z.1 (by decide))]; exact hl
  rw [← hag_59 6 0 (fun z => absurd z.1 (by decide))]
  refine xp_L hc hw hin 6 0 7 24 rfl rfl rfl rfl (by decide) (by decide) (hi) (l24) rfl rfl (ty := .array (.object "ButtonWorks$Order")) (by decide +kernel) rfl rfl mw_86 dX6_init_62 (fun H locs hw => ?_)
  refine lv_aload_n hx hb dX6_init_65 rfl (lv_at hl 0 rfl) ?_
  refine lv_iconst (v := 0) hx hb dX6_init_66 (by decide) ?_
  refine xp_i hc hw 6 0 8 rfl rfl rfl rfl (by decide) (hi) rfl (ty := .int) (by decide +kernel) rfl rfl mw_87 dX6_init_67 (fun H locs hw => ?_)
  refine lv_aload_n hx hb dX6_init_70 rfl (lv_at hl 0 rfl) ?_
  refine lv_bipush (v := 30) hx hb dX6_init_71 (by decide) ?_
  refine xn_iarr hc hw 18 0 rfl (by decide) (h18) (Nat.le_trans (Nat.le_of_eq l18) (Nat.zero_le _)) rfl (by decide +kernel) (by decide +kernel) dX6_init_73 (fun ad_73 H hag_73 hw => ?_)
  have hl : lv_has ls 2 [(0, .ref (ad_73 6 0))] := by rw [hag_73 6 0 (fun z => absurd z.1 (by decide))]; exact hl
  rw [← hag_73 6 0 (fun z => absurd z.1 (by decide))]
  refine xp_L hc hw hin 6 0 9 18 rfl rfl rfl rfl (by decide) (by decide) (hi) (l18) rfl rfl (ty := .array .int) (by decide +kernel) rfl rfl mw_88 dX6_init_75 (fun H locs hw => ?_)
  refine lv_aload_n hx hb dX6_init_78 rfl (lv_at hl 0 rfl) ?_
  refine xn_obj hc hw 2 0 rfl rfl rfl (h2) (Nat.le_trans (Nat.le_of_eq l2) (Nat.zero_le _)) (x_rk2) (fun j q hq => by match j, hq with | 0, hq => cases hq; exact Nat.le_of_eq l11 | 2, hq => cases hq; exact Nat.le_of_eq l12 | 3, hq => cases hq; exact Nat.le_of_eq l13 | 4, hq => cases hq; exact Nat.le_of_eq l14) mw_34 mw_35 mw_2 (by decide +kernel) (by decide +kernel) dX6_init_79 (fun ad_79 H hag_79 hw => ?_)
  have hl : lv_has ls 2 [(0, .ref (ad_79 6 0))] := by rw [hag_79 6 0 (fun z => absurd z.1 (by decide))]; exact hl
  rw [← hag_79 6 0 (fun z => absurd z.1 (by decide))]
  refine lv_dup hx hb dX6_init_82 rfl ?_
  refine xc_INv (host := "ButtonWorks") hc hw (c_X2_init 0  (Nat.lt_succ_self _) (h11) (l11) (h12) (l12) (h13) (l13) (h14) (l14)) mw_38 (by decide +kernel) mw_2 mw_37 rfl xd_X2_init ⟨by decide, by decide⟩ (rfl) hl.1 (Nat.le_of_ble_eq_true rfl) dX6_init_83 ⟨Nat.le_of_ble_eq_true rfl, Nat.le_of_ble_eq_true rfl⟩ (fun ad_83 H locs hag_83 hw => ?_)
  have hl : lv_has ls 2 [(0, .ref (ad_83 6 0))] := by rw [hag_83 6 0 (hi)]; exact hl
  rw [← hag_83 2 0 (Nat.lt_succ_self _), ← hag_83 6 0 (hi)]
  refine xp_L hc hw hin 6 0 10 2 rfl rfl rfl rfl (by decide) (by decide) (hi) (l2) rfl rfl (ty := .object "ButtonWorks$Cutter") (by decide +kernel) rfl rfl mw_89 dX6_init_86 (fun H locs hw => ?_)
  refine lv_aload_n hx hb dX6_init_89 rfl (lv_at hl 0 rfl) ?_
  refine lv_bipush (v := 6) hx hb dX6_init_90 (by decide) ?_
  refine xn_iarr hc hw 19 0 rfl (by decide) (h19) (Nat.le_trans (Nat.le_of_eq l19) (Nat.zero_le _)) rfl (by decide +kernel) (by decide +kernel) dX6_init_92 (fun ad_92 H hag_92 hw => ?_)
  have hl : lv_has ls 2 [(0, .ref (ad_92 6 0))] := by rw [hag_92 6 0 (fun z => absurd z.1 (by decide))]; exact hl
  rw [← hag_92 6 0 (fun z => absurd z.1 (by decide))]
  refine xp_L hc hw hin 6 0 11 19 rfl rfl rfl rfl (by decide) (by decide) (hi) (l19) rfl rfl (ty := .array .int) (by decide +kernel) rfl rfl mw_90 dX6_init_94 (fun H locs hw => ?_)
  refine lv_aload_n hx hb dX6_init_97 rfl (lv_at hl 0 rfl) ?_
  refine lv_iconst (v := 0) hx hb dX6_init_98 (by decide) ?_
  refine xp_i hc hw 6 0 12 rfl rfl rfl rfl (by decide) (hi) rfl (ty := .int) (by decide +kernel) rfl rfl mw_91 dX6_init_99 (fun H locs hw => ?_)
  refine lv_aload_n hx hb dX6_init_102 rfl (lv_at hl 0 rfl) ?_
  refine lv_iconst (v := 0) hx hb dX6_init_103 (by decide) ?_
  refine xp_i hc hw 6 0 13 rfl rfl rfl rfl (by decide) (hi) rfl (ty := .int) (by decide +kernel) rfl rfl mw_92 dX6_init_104 (fun H locs hw => ?_)
  refine lv_iconst (v := 0) hx hb dX6_init_107 (by decide) ?_
  refine lv_istore_n (lv' := [(1, .int 0), (0, .ref (ad_92 6 0))]) hx hb dX6_init_108 rfl hl (by decide) rfl (fun ls hl => ?_)
  refine lv_iload_n hx hb dX6_init_109 rfl (lv_at hl 0 rfl) ?_
  refine lv_bipush (v := 6) hx hb dX6_init_110 (by decide) ?_
  refine lv_icmp_ge (tgt := 134) hx hb dX6_init_112 (by decide) (fun c_112 => ?_) (fun c_112 => ?_)
  · exact absurd c_112 (by decide)
  · refine lv_aload_n hx hb dX6_init_115 rfl (lv_at hl 1 rfl) ?_
    refine xg_r hc hw 6 0 4 rfl rfl rfl rfl (by decide) (hi) (Nat.lt_succ_self _) mw_83 dX6_init_116 ?_
    refine lv_iload_n hx hb dX6_init_119 rfl (lv_at hl 0 rfl) ?_
    refine xn_obj hc hw 3 0 rfl rfl rfl (h3) (Nat.le_trans (Nat.le_of_eq l3) (Nat.zero_le _)) (x_rk (by omega) (by omega) (fun _ => by first | exact Nat.le_refl _ | exact Nat.le_trans (Nat.le_of_eq s22) (Nat.zero_le _)) (by omega) (by omega)) (fun j q hq => by cases hq) mw_28 mw_57 mw_3 (by decide +kernel) (by decide +kernel) dX6_init_120 (fun ad_120 H hag_120 hw => ?_)
    have hl : lv_has ls 2 [(1, .int 0), (0, .ref (ad_120 6 0))] := by rw [hag_120 6 0 (fun z => absurd z.1 (by decide))]; exact hl
    rw [← hag_120 22 0 (fun z => absurd z.1 (by decide))]
    refine lv_dup hx hb dX6_init_123 rfl ?_
    refine xc_INv (host := "ButtonWorks") hc hw (c_X3_init 0  (Nat.lt_succ_self _)) mw_60 (by decide +kernel) mw_3 mw_59 rfl xd_X3_init ⟨by decide, by decide⟩ (rfl) hl.1 (Nat.le_of_ble_eq_true rfl) dX6_init_124 ⟨Nat.le_of_ble_eq_true rfl, Nat.le_of_ble_eq_true rfl⟩ (fun σ_124 H locs hag_124 hw => ?_)
    have hq_124 := hag_124
    replace hq_124 : _ = _ := hq_124
    rw [hq_124] at hw
    have hjs_127 : 0 = (x_set (x_set (fs_X2_init (x_set (x_set (x_set (x_set (x_set (x_set st 120 (0 + 1)) 121 (0 + 1)) 122 (0 + 1)) 123 (0 + 1)) 124 (0 + 1)) 118 (0 + 1)) 0) 102 (0 + 1)) 119 (0 + 1)) 22 := by first | rfl | exact s22.symm
    refine xa_rst (st' := x_set (x_set (x_set (fs_X2_init (x_set (x_set (x_set (x_set (x_set (x_set st 120 (0 + 1)) 121 (0 + 1)) 122 (0 + 1)) 123 (0 + 1)) 124 (0 + 1)) 118 (0 + 1)) 0) 102 (0 + 1)) 119 (0 + 1)) 22 (0 + 1)) hc hw 22 0 rfl (Nat.lt_succ_self _) (rfl) (rfl) hjs_127 (by decide) (Nat.lt_succ_self _) (fun a => by rw [← hjs_127]; rfl) dX6_init_127 (fun H locs hw => ?_)
    refine lv_iinc (v := 1) (lv' := [(1, .int 1), (0, .ref (ad_120 6 0))]) hx hb dX6_init_128 hl (k := 0) rfl (by decide) (by decide) rfl (fun ls hl => ?_)
    refine lv_goto (tgt := 109) hx hb dX6_init_131 (by decide) ?_
    refine lv_iload_n hx hb dX6_init_109 rfl (lv_at hl 0 rfl) ?_
    refine lv_bipush (v := 6) hx hb dX6_init_110 (by decide) ?_
    refine lv_icmp_ge (tgt := 134) hx hb dX6_init_112 (by decide) (fun c_112 => ?_) (fun c_112 => ?_)
    · exact absurd c_112 (by decide)
    · refine lv_aload_n hx hb dX6_init_115 rfl (lv_at hl 1 rfl) ?_
      refine xg_r hc hw 6 0 4 rfl rfl rfl rfl (by decide) (hi) (Nat.lt_succ_self _) mw_83 dX6_init_116 ?_
      refine lv_iload_n hx hb dX6_init_119 rfl (lv_at hl 0 rfl) ?_
      refine xn_obj hc hw 3 1 rfl rfl rfl (rfl) (Nat.le_trans (Nat.le_of_eq l3) (Nat.zero_le _)) (x_rk (by omega) (by omega) (fun _ => by first | exact Nat.le_refl _ | exact Nat.le_trans (Nat.le_of_eq s22) (Nat.zero_le _)) (by omega) (by omega)) (fun j q hq => by cases hq) mw_28 mw_57 mw_3 (by decide +kernel) (by decide +kernel) dX6_init_120 (fun ad_120_13 H hag_120_13 hw => ?_)
      have hl : lv_has ls 2 [(1, .int 1), (0, .ref (ad_120_13 6 0))] := by rw [hag_120_13 6 0 (fun z => absurd z.1 (by decide))]; exact hl
      rw [← hag_120_13 22 0 (fun z => absurd z.1 (by decide))]
      refine lv_dup hx hb dX6_init_123 rfl ?_
      refine xc_INv (host := "ButtonWorks") hc hw (c_X3_init 1  (Nat.lt_succ_self _)) mw_60 (by decide +kernel) mw_3 mw_59 rfl xd_X3_init ⟨by decide, by decide⟩ (rfl) hl.1 (Nat.le_of_ble_eq_true rfl) dX6_init_124 ⟨Nat.le_of_ble_eq_true rfl, Nat.le_of_ble_eq_true rfl⟩ (fun σ_124 H locs hag_124_14 hw => ?_)
      have hq_124 := hag_124_14
      replace hq_124 : _ = _ := hq_124
      rw [hq_124] at hw
      have hjs_127_15 : 1 = (x_set (x_set (x_set (fs_X2_init (x_set (x_set (x_set (x_set (x_set (x_set st 120 (0 + 1)) 121 (0 + 1)) 122 (0 + 1)) 123 (0 + 1)) 124 (0 + 1)) 118 (0 + 1)) 0) 102 (0 + 1)) 119 (0 + 1)) 22 (0 + 1)) 22 := by first | rfl | exact s22.symm
      refine xa_rst (st' := x_set (x_set (x_set (x_set (fs_X2_init (x_set (x_set (x_set (x_set (x_set (x_set st 120 (0 + 1)) 121 (0 + 1)) 122 (0 + 1)) 123 (0 + 1)) 124 (0 + 1)) 118 (0 + 1)) 0) 102 (0 + 1)) 119 (0 + 1)) 22 (0 + 1)) 22 (1 + 1)) hc hw 22 0 rfl (Nat.lt_succ_self _) (rfl) (rfl) hjs_127_15 (by decide) (Nat.lt_succ_self _) (fun a => by rw [← hjs_127_15]; rfl) dX6_init_127 (fun H locs hw => ?_)
      refine lv_iinc (v := 2) (lv' := [(1, .int 2), (0, .ref (ad_120_13 6 0))]) hx hb dX6_init_128 hl (k := 0) rfl (by decide) (by decide) rfl (fun ls hl => ?_)
      refine lv_goto (tgt := 109) hx hb dX6_init_131 (by decide) ?_
      refine lv_iload_n hx hb dX6_init_109 rfl (lv_at hl 0 rfl) ?_
      refine lv_bipush (v := 6) hx hb dX6_init_110 (by decide) ?_
      refine lv_icmp_ge (tgt := 134) hx hb dX6_init_112 (by decide) (fun c_112 => ?_) (fun c_112 => ?_)
      · exact absurd c_112 (by decide)
      · refine lv_aload_n hx hb dX6_init_115 rfl (lv_at hl 1 rfl) ?_
        refine xg_r hc hw 6 0 4 rfl rfl rfl rfl (by decide) (hi) (Nat.lt_succ_self _) mw_83 dX6_init_116 ?_
        refine lv_iload_n hx hb dX6_init_119 rfl (lv_at hl 0 rfl) ?_
        refine xn_obj hc hw 3 2 rfl rfl rfl (rfl) (Nat.le_trans (Nat.le_of_eq l3) (Nat.zero_le _)) (x_rk (by omega) (by omega) (fun _ => by first | exact Nat.le_refl _ | exact Nat.le_trans (Nat.le_of_eq s22) (Nat.zero_le _)) (by omega) (by omega)) (fun j q hq => by cases hq) mw_28 mw_57 mw_3 (by decide +kernel) (by decide +kernel) dX6_init_120 (fun ad_120_16 H hag_120_16 hw => ?_)
        have hl : lv_has ls 2 [(1, .int 2), (0, .ref (ad_120_16 6 0))] := by rw [hag_120_16 6 0 (fun z => absurd z.1 (by decide))]; exact hl
        rw [← hag_120_16 22 0 (fun z => absurd z.1 (by decide))]
        refine lv_dup hx hb dX6_init_123 rfl ?_
        refine xc_INv (host := "ButtonWorks") hc hw (c_X3_init 2  (Nat.lt_succ_self _)) mw_60 (by decide +kernel) mw_3 mw_59 rfl xd_X3_init ⟨by decide, by decide⟩ (rfl) hl.1 (Nat.le_of_ble_eq_true rfl) dX6_init_124 ⟨Nat.le_of_ble_eq_true rfl, Nat.le_of_ble_eq_true rfl⟩ (fun σ_124 H locs hag_124_17 hw => ?_)
        have hq_124 := hag_124_17
        replace hq_124 : _ = _ := hq_124
        rw [hq_124] at hw
        have hjs_127_18 : 2 = (x_set (x_set (x_set (x_set (fs_X2_init (x_set (x_set (x_set (x_set (x_set (x_set st 120 (0 + 1)) 121 (0 + 1)) 122 (0 + 1)) 123 (0 + 1)) 124 (0 + 1)) 118 (0 + 1)) 0) 102 (0 + 1)) 119 (0 + 1)) 22 (0 + 1)) 22 (1 + 1)) 22 := by first | rfl | exact s22.symm
        refine xa_rst (st' := x_set (x_set (x_set (x_set (x_set (fs_X2_init (x_set (x_set (x_set (x_set (x_set (x_set st 120 (0 + 1)) 121 (0 + 1)) 122 (0 + 1)) 123 (0 + 1)) 124 (0 + 1)) 118 (0 + 1)) 0) 102 (0 + 1)) 119 (0 + 1)) 22 (0 + 1)) 22 (1 + 1)) 22 (2 + 1)) hc hw 22 0 rfl (Nat.lt_succ_self _) (rfl) (rfl) hjs_127_18 (by decide) (Nat.lt_succ_self _) (fun a => by rw [← hjs_127_18]; rfl) dX6_init_127 (fun H locs hw => ?_)
        refine lv_iinc (v := 3) (lv' := [(1, .int 3), (0, .ref (ad_120_16 6 0))]) hx hb dX6_init_128 hl (k := 0) rfl (by decide) (by decide) rfl (fun ls hl => ?_)
        refine lv_goto (tgt := 109) hx hb dX6_init_131 (by decide) ?_
        refine lv_iload_n hx hb dX6_init_109 rfl (lv_at hl 0 rfl) ?_
        refine lv_bipush (v := 6) hx hb dX6_init_110 (by decide) ?_
        refine lv_icmp_ge (tgt := 134) hx hb dX6_init_112 (by decide) (fun c_112 => ?_) (fun c_112 => ?_)
        · exact absurd c_112 (by decide)
        · refine lv_aload_n hx hb dX6_init_115 rfl (lv_at hl 1 rfl) ?_
          refine xg_r hc hw 6 0 4 rfl rfl rfl rfl (by decide) (hi) (Nat.lt_succ_self _) mw_83 dX6_init_116 ?_
          refine lv_iload_n hx hb dX6_init_119 rfl (lv_at hl 0 rfl) ?_
          refine xn_obj hc hw 3 3 rfl rfl rfl (rfl) (Nat.le_trans (Nat.le_of_eq l3) (Nat.zero_le _)) (x_rk (by omega) (by omega) (fun _ => by first | exact Nat.le_refl _ | exact Nat.le_trans (Nat.le_of_eq s22) (Nat.zero_le _)) (by omega) (by omega)) (fun j q hq => by cases hq) mw_28 mw_57 mw_3 (by decide +kernel) (by decide +kernel) dX6_init_120 (fun ad_120_19 H hag_120_19 hw => ?_)
          have hl : lv_has ls 2 [(1, .int 3), (0, .ref (ad_120_19 6 0))] := by rw [hag_120_19 6 0 (fun z => absurd z.1 (by decide))]; exact hl
          rw [← hag_120_19 22 0 (fun z => absurd z.1 (by decide))]
          refine lv_dup hx hb dX6_init_123 rfl ?_
          refine xc_INv (host := "ButtonWorks") hc hw (c_X3_init 3  (Nat.lt_succ_self _)) mw_60 (by decide +kernel) mw_3 mw_59 rfl xd_X3_init ⟨by decide, by decide⟩ (rfl) hl.1 (Nat.le_of_ble_eq_true rfl) dX6_init_124 ⟨Nat.le_of_ble_eq_true rfl, Nat.le_of_ble_eq_true rfl⟩ (fun σ_124 H locs hag_124_20 hw => ?_)
          have hq_124 := hag_124_20
          replace hq_124 : _ = _ := hq_124
          rw [hq_124] at hw
          have hjs_127_21 : 3 = (x_set (x_set (x_set (x_set (x_set (fs_X2_init (x_set (x_set (x_set (x_set (x_set (x_set st 120 (0 + 1)) 121 (0 + 1)) 122 (0 + 1)) 123 (0 + 1)) 124 (0 + 1)) 118 (0 + 1)) 0) 102 (0 + 1)) 119 (0 + 1)) 22 (0 + 1)) 22 (1 + 1)) 22 (2 + 1)) 22 := by first | rfl | exact s22.symm
          refine xa_rst (st' := x_set (x_set (x_set (x_set (x_set (x_set (fs_X2_init (x_set (x_set (x_set (x_set (x_set (x_set st 120 (0 + 1)) 121 (0 + 1)) 122 (0 + 1)) 123 (0 + 1)) 124 (0 + 1)) 118 (0 + 1)) 0) 102 (0 + 1)) 119 (0 + 1)) 22 (0 + 1)) 22 (1 + 1)) 22 (2 + 1)) 22 (3 + 1)) hc hw 22 0 rfl (Nat.lt_succ_self _) (rfl) (rfl) hjs_127_21 (by decide) (Nat.lt_succ_self _) (fun a => by rw [← hjs_127_21]; rfl) dX6_init_127 (fun H locs hw => ?_)
          refine lv_iinc (v := 4) (lv' := [(1, .int 4), (0, .ref (ad_120_19 6 0))]) hx hb dX6_init_128 hl (k := 0) rfl (by decide) (by decide) rfl (fun ls hl => ?_)
          refine lv_goto (tgt := 109) hx hb dX6_init_131 (by decide) ?_
          refine lv_iload_n hx hb dX6_init_109 rfl (lv_at hl 0 rfl) ?_
          refine lv_bipush (v := 6) hx hb dX6_init_110 (by decide) ?_
          refine lv_icmp_ge (tgt := 134) hx hb dX6_init_112 (by decide) (fun c_112 => ?_) (fun c_112 => ?_)
          · exact absurd c_112 (by decide)
          · refine lv_aload_n hx hb dX6_init_115 rfl (lv_at hl 1 rfl) ?_
            refine xg_r hc hw 6 0 4 rfl rfl rfl rfl (by decide) (hi) (Nat.lt_succ_self _) mw_83 dX6_init_116 ?_
            refine lv_iload_n hx hb dX6_init_119 rfl (lv_at hl 0 rfl) ?_
            refine xn_obj hc hw 3 4 rfl rfl rfl (rfl) (Nat.le_trans (Nat.le_of_eq l3) (Nat.zero_le _)) (x_rk (by omega) (by omega) (fun _ => by first | exact Nat.le_refl _ | exact Nat.le_trans (Nat.le_of_eq s22) (Nat.zero_le _)) (by omega) (by omega)) (fun j q hq => by cases hq) mw_28 mw_57 mw_3 (by decide +kernel) (by decide +kernel) dX6_init_120 (fun ad_120_22 H hag_120_22 hw => ?_)
            have hl : lv_has ls 2 [(1, .int 4), (0, .ref (ad_120_22 6 0))] := by rw [hag_120_22 6 0 (fun z => absurd z.1 (by decide))]; exact hl
            rw [← hag_120_22 22 0 (fun z => absurd z.1 (by decide))]
            refine lv_dup hx hb dX6_init_123 rfl ?_
            refine xc_INv (host := "ButtonWorks") hc hw (c_X3_init 4  (Nat.lt_succ_self _)) mw_60 (by decide +kernel) mw_3 mw_59 rfl xd_X3_init ⟨by decide, by decide⟩ (rfl) hl.1 (Nat.le_of_ble_eq_true rfl) dX6_init_124 ⟨Nat.le_of_ble_eq_true rfl, Nat.le_of_ble_eq_true rfl⟩ (fun σ_124 H locs hag_124_23 hw => ?_)
            have hq_124 := hag_124_23
            replace hq_124 : _ = _ := hq_124
            rw [hq_124] at hw
            have hjs_127_24 : 4 = (x_set (x_set (x_set (x_set (x_set (x_set (fs_X2_init (x_set (x_set (x_set (x_set (x_set (x_set st 120 (0 + 1)) 121 (0 + 1)) 122 (0 + 1)) 123 (0 + 1)) 124 (0 + 1)) 118 (0 + 1)) 0) 102 (0 + 1)) 119 (0 + 1)) 22 (0 + 1)) 22 (1 + 1)) 22 (2 + 1)) 22 (3 + 1)) 22 := by first | rfl | exact s22.symm
            refine xa_rst (st' := x_set (x_set (x_set (x_set (x_set (x_set (x_set (fs_X2_init (x_set (x_set (x_set (x_set (x_set (x_set st 120 (0 + 1)) 121 (0 + 1)) 122 (0 + 1)) 123 (0 + 1)) 124 (0 + 1)) 118 (0 + 1)) 0) 102 (0 + 1)) 119 (0 + 1)) 22 (0 + 1)) 22 (1 + 1)) 22 (2 + 1)) 22 (3 + 1)) 22 (4 + 1)) hc hw 22 0 rfl (Nat.lt_succ_self _) (rfl) (rfl) hjs_127_24 (by decide) (Nat.lt_succ_self _) (fun a => by rw [← hjs_127_24]; rfl) dX6_init_127 (fun H locs hw => ?_)
            refine lv_iinc (v := 5) (lv' := [(1, .int 5), (0, .ref (ad_120_22 6 0))]) hx hb dX6_init_128 hl (k := 0) rfl (by decide) (by decide) rfl (fun ls hl => ?_)
            refine lv_goto (tgt := 109) hx hb dX6_init_131 (by decide) ?_
            refine lv_iload_n hx hb dX6_init_109 rfl (lv_at hl 0 rfl) ?_
            refine lv_bipush (v := 6) hx hb dX6_init_110 (by decide) ?_
            refine lv_icmp_ge (tgt := 134) hx hb dX6_init_112 (by decide) (fun c_112 => ?_) (fun c_112 => ?_)
            · exact absurd c_112 (by decide)
            · refine lv_aload_n hx hb dX6_init_115 rfl (lv_at hl 1 rfl) ?_
              refine xg_r hc hw 6 0 4 rfl rfl rfl rfl (by decide) (hi) (Nat.lt_succ_self _) mw_83 dX6_init_116 ?_
              refine lv_iload_n hx hb dX6_init_119 rfl (lv_at hl 0 rfl) ?_
              refine xn_obj hc hw 3 5 rfl rfl rfl (rfl) (Nat.le_trans (Nat.le_of_eq l3) (Nat.zero_le _)) (x_rk (by omega) (by omega) (fun _ => by first | exact Nat.le_refl _ | exact Nat.le_trans (Nat.le_of_eq s22) (Nat.zero_le _)) (by omega) (by omega)) (fun j q hq => by cases hq) mw_28 mw_57 mw_3 (by decide +kernel) (by decide +kernel) dX6_init_120 (fun ad_120_25 H hag_120_25 hw => ?_)
              have hl : lv_has ls 2 [(1, .int 5), (0, .ref (ad_120_25 6 0))] := by rw [hag_120_25 6 0 (fun z => absurd z.1 (by decide))]; exact hl
              rw [← hag_120_25 22 0 (fun z => absurd z.1 (by decide))]
              refine lv_dup hx hb dX6_init_123 rfl ?_
              refine xc_INv (host := "ButtonWorks") hc hw (c_X3_init 5  (Nat.lt_succ_self _)) mw_60 (by decide +kernel) mw_3 mw_59 rfl xd_X3_init ⟨by decide, by decide⟩ (rfl) hl.1 (Nat.le_of_ble_eq_true rfl) dX6_init_124 ⟨Nat.le_of_ble_eq_true rfl, Nat.le_of_ble_eq_true rfl⟩ (fun σ_124 H locs hag_124_26 hw => ?_)
              have hq_124 := hag_124_26
              replace hq_124 : _ = _ := hq_124
              rw [hq_124] at hw
              have hjs_127_27 : 5 = (x_set (x_set (x_set (x_set (x_set (x_set (x_set (fs_X2_init (x_set (x_set (x_set (x_set (x_set (x_set st 120 (0 + 1)) 121 (0 + 1)) 122 (0 + 1)) 123 (0 + 1)) 124 (0 + 1)) 118 (0 + 1)) 0) 102 (0 + 1)) 119 (0 + 1)) 22 (0 + 1)) 22 (1 + 1)) 22 (2 + 1)) 22 (3 + 1)) 22 (4 + 1)) 22 := by first | rfl | exact s22.symm
              refine xa_rst (st' := x_set (x_set (x_set (x_set (x_set (x_set (x_set (x_set (fs_X2_init (x_set (x_set (x_set (x_set (x_set (x_set st 120 (0 + 1)) 121 (0 + 1)) 122 (0 + 1)) 123 (0 + 1)) 124 (0 + 1)) 118 (0 + 1)) 0) 102 (0 + 1)) 119 (0 + 1)) 22 (0 + 1)) 22 (1 + 1)) 22 (2 + 1)) 22 (3 + 1)) 22 (4 + 1)) 22 (5 + 1)) hc hw 22 0 rfl (Nat.lt_succ_self _) (rfl) (rfl) hjs_127_27 (by decide) (Nat.lt_succ_self _) (fun a => by rw [← hjs_127_27]; rfl) dX6_init_127 (fun H locs hw => ?_)
              refine lv_iinc (v := 6) (lv' := [(1, .int 6), (0, .ref (ad_120_25 6 0))]) hx hb dX6_init_128 hl (k := 0) rfl (by decide) (by decide) rfl (fun ls hl => ?_)
              refine lv_goto (tgt := 109) hx hb dX6_init_131 (by decide) ?_
              refine lv_iload_n hx hb dX6_init_109 rfl (lv_at hl 0 rfl) ?_
              refine lv_bipush (v := 6) hx hb dX6_init_110 (by decide) ?_
              refine lv_icmp_ge (tgt := 134) hx hb dX6_init_112 (by decide) (fun c_112 => ?_) (fun c_112 => ?_)
              · exact xr_v hc hlocks hr hw (fun a b hb => (Eq.trans (x_ag hag_120_25 (Nat.le_trans (Nat.le_of_eq h3) (Nat.zero_le _)) hb) (Eq.trans (x_ag hag_120_22 (Nat.le_trans (Nat.le_of_eq h3) (Nat.zero_le _)) hb) (Eq.trans (x_ag hag_120_19 (Nat.le_trans (Nat.le_of_eq h3) (Nat.zero_le _)) hb) (Eq.trans (x_ag hag_120_16 (Nat.le_trans (Nat.le_of_eq h3) (Nat.zero_le _)) hb) (Eq.trans (x_ag hag_120_13 (Nat.le_trans (Nat.le_of_eq h3) (Nat.zero_le _)) hb) (Eq.trans (x_ag hag_120 (Nat.le_trans (Nat.le_of_eq h3) (Nat.zero_le _)) hb) (Eq.trans (x_ag hag_92 (Nat.le_trans (Nat.le_of_eq h19) (Nat.zero_le _)) hb) (Eq.trans (hag_83 a b ((x_mono (x_mono (x_mono (x_mono (x_mono (x_mono (x_mono hb (Nat.le_trans (Nat.le_of_eq (h20)) (Nat.le_succ _))) (Nat.le_trans (Nat.le_of_eq (h21)) (Nat.le_succ _))) (Nat.le_trans (Nat.le_of_eq (h22)) (Nat.le_succ _))) (Nat.le_trans (Nat.le_of_eq (h23)) (Nat.le_succ _))) (Nat.le_trans (Nat.le_of_eq (h24)) (Nat.le_succ _))) (Nat.le_trans (Nat.le_of_eq (h18)) (Nat.le_succ _))) (Nat.le_trans (Nat.le_of_eq (h2)) (Nat.le_succ _))))) (Eq.trans (x_ag hag_79 (Nat.le_trans (Nat.le_of_eq h2) (Nat.zero_le _)) hb) (Eq.trans (x_ag hag_73 (Nat.le_trans (Nat.le_of_eq h18) (Nat.zero_le _)) hb) (Eq.trans (x_ag hag_59 (Nat.le_trans (Nat.le_of_eq h24) (Nat.zero_le _)) hb) (Eq.trans (x_ag hag_45 (Nat.le_trans (Nat.le_of_eq h23) (Nat.zero_le _)) hb) (Eq.trans (x_ag hag_36 (Nat.le_trans (Nat.le_of_eq h22) (Nat.zero_le _)) hb) (Eq.trans (x_ag hag_22 (Nat.le_trans (Nat.le_of_eq h21) (Nat.zero_le _)) hb) (x_ag hag_7 (Nat.le_trans (Nat.le_of_eq h20) (Nat.zero_le _)) hb)))))))))))))))) (by decide +kernel) (by decide +kernel) dX6_init_134
              · exact absurd c_112 (by decide)
