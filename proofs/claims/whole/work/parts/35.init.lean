theorem x_ag {ad ad' : Nat → Nat → Nat} {n : Nat → Nat} {k i a b : Nat} (h : ∀ a b, ¬ (a = k ∧ b = i) → ad' a b = ad a b) (hn : n k ≤ i) (hb : b < n a) : ad' a b = ad a b :=
  h a b fun z => absurd hb (by rw [z.1, z.2]; exact Nat.not_lt.mpr hn)
def f_X0_init (σ : x_St) (i : Nat) (a b d f g : Int32) : x_St := x_up (x_up (x_up (x_up (x_up (x_up (x_up (x_up (x_up σ 0 i 5 0) 0 i 6 0) 0 i 7 (-1)) 0 i 8 (-1)) 0 i 0 a) 0 i 1 b) 0 i 2 d) 0 i 3 f) 0 i 4 g
def f_X3_init (σ : x_St) (i : Nat) : x_St := x_up (x_up (x_up (x_up σ 3 i 0 0) 3 i 1 100) 3 i 2 0) 3 i 3 0
def f_X4_init (σ : x_St) (i : Nat) (a b d f g h k : Int32) : x_St := x_up (x_up (x_up (x_up (x_up (x_up (x_up (x_up σ 4 i 7 (-1)) 4 i 0 a) 4 i 1 b) 4 i 2 d) 4 i 3 f) 4 i 4 g) 4 i 5 h) 4 i 6 k
def fn_X1_init (n : Nat → Nat) (i : Nat) : Nat → Nat := x_set n 10 (i + 1)
def fs_X1_init (st : Nat → Nat) (i : Nat) : Nat → Nat := x_set st 110 (i + 1)
def f_X1_init (σ : x_St) (i : Nat) (a b d : Int32) : x_St := x_up (x_up (x_up (x_up (x_up (x_up (x_zr σ 10 i) 1 i 4 9) 1 i 5 0) 1 i 6 (-1)) 1 i 0 a) 1 i 1 b) 1 i 2 d
def fn_X2_init (n : Nat → Nat) (i : Nat) : Nat → Nat := x_set (x_set (x_set (x_set n 11 (i + 1)) 12 (i + 1)) 13 (i + 1)) 14 (i + 1)
def fs_X2_init (st : Nat → Nat) (i : Nat) : Nat → Nat := x_set (x_set (x_set (x_set st 111 (i + 1)) 112 (i + 1)) 113 (i + 1)) 114 (i + 1)
def f_X2_init (σ : x_St) (i : Nat) : x_St := x_zr (x_zr (x_zr (x_up (x_zr σ 11 i) 2 i 1 0) 12 i) 13 i) 14 i
def fn_X5_init (n : Nat → Nat) (i : Nat) : Nat → Nat := x_set (x_set (x_set n 15 (i + 1)) 16 (i + 1)) 17 (i + 1)
def fs_X5_init (st : Nat → Nat) (i : Nat) : Nat → Nat := x_set (x_set (x_set st 115 (i + 1)) 116 (i + 1)) 117 (i + 1)
def f_X5_init (σ : x_St) (i : Nat) (a b d : Int32) : x_St := x_up (x_up (x_up (x_up (x_up (x_up (x_zr (x_zr (x_up (x_zr σ 15 i) 5 i 4 0) 16 i) 17 i) 5 i 7 0) 5 i 8 0) 5 i 9 (-1)) 5 i 0 a) 5 i 1 b) 5 i 2 d
/-- X0_init -/
def q_X0_init (σ : x_St) (i : Nat) (a b d f g : Int32) : x_St → Prop := fun σ' => σ' = f_X0_init σ i a b d f g
set_option maxHeartbeats 4000000 in
set_option maxRecDepth 100000 in
theorem c_X0_init {l : Launch} {D : va_G} {cs : Nat → ClassId} {base : Nat} {ad : Nat → Nat → Nat} {n st : Nat → Nat} {σ : x_St} (i : Nat) (a b d f g : Int32) (hi : i < n 0) : x_Cv l yX0_init cX0_init 6 1 0 0 D cs base ad n st σ [.ref (ad 0 i), .int a, .int b, .int d, .int f, .int g] (q_X0_init σ i a b d f g) (fun σ' => x_U D cs base ad n st σ') := by
  refine Met.ofW (cc := cX0_init) (maxL := 6) (ret := none) (by decide) rfl ?_
  intro p e s m args below meth c s₁ B hml hv
  obtain ⟨rfl, hU⟩ := hv
  have hx := B.exec
  have hb := B.bytes
  have hr := B.returns
  have hts := atoms_spec (ws := Cond.code yX0_init cX0_init 6 (none) :: Tw) B.pre
  have hown : s.vm.findClass RX0 = some m.cls := findClass_of_methodNamed B.named
  have hlocks := B.notSynchronized
  have hc : CallFix p m c cX0_init 6 s (([.ref (ad 0 i), .int a, .int b, .int d, .int f, .int g] : List Value).toArray) Tw RX0 := ⟨hx, hb, hml, hown, fun w hw => hts w (List.mem_cons_of_mem _ hw)⟩
  have hw := x_B.start hU
  have hl := lv_entry ([.ref (ad 0 i), .int a, .int b, .int d, .int f, .int g]) (n := 6) (Nat.le_of_ble_eq_true rfl)
  rw [lg_entry_eq]
  generalize (lg_sl ([.ref (ad 0 i), .int a, .int b, .int d, .int f, .int g]) ++ List.replicate (6 - (lg_sl ([.ref (ad 0 i), .int a, .int b, .int d, .int f, .int g])).length) Slot.unset).toArray = ls at hl ⊢
  have hl : lv_has ls 6 [(0, .ref (ad 0 i)), (1, .int a), (2, .int b), (3, .int d), (4, .int f), (5, .int g)] := hl
  have hin : meth.name = "<init>" := (name_of_methodNamed B.named B.method).1
  show W p l e (x_rm 1 0 0) s m ([.ref (ad 0 i), .int a, .int b, .int d, .int f, .int g] : List Value).toArray below meth c s.heap [] 0 0 (MQ below (va_Qv (q_X0_init σ i a b d f g) (fun σ' => x_U D cs base ad n st σ') (x_A base)) ([.ref (ad 0 i), .int a, .int b, .int d, .int f, .int g] : List Value).toArray s 0 0 (x_A base)) (F0 m 0 ls [])
  refine lv_aload_n hx hb dX0_init_0 rfl (lv_at hl 0 rfl) ?_
  refine xo_init hc mw_422 hl.1 (Nat.le_of_ble_eq_true rfl) ⟨by decide, by decide⟩ dX0_init_1 ?_
  refine lv_aload_n hx hb dX0_init_4 rfl (lv_at hl 0 rfl) ?_
  refine lv_iconst (v := 0) hx hb dX0_init_5 (by decide) ?_
  refine xp_i hc hw 0 i 5 rfl rfl rfl rfl (by decide) (hi) rfl (ty := .int) (by decide +kernel) rfl rfl mw_433 dX0_init_6 (fun H locs hw => ?_)
  refine lv_aload_n hx hb dX0_init_9 rfl (lv_at hl 0 rfl) ?_
  refine lv_iconst (v := 0) hx hb dX0_init_10 (by decide) ?_
  refine xp_i hc hw 0 i 6 rfl rfl rfl rfl (by decide) (hi) rfl (ty := .int) (by decide +kernel) rfl rfl mw_435 dX0_init_11 (fun H locs hw => ?_)
  refine lv_aload_n hx hb dX0_init_14 rfl (lv_at hl 0 rfl) ?_
  refine lv_iconst (v := (-1)) hx hb dX0_init_15 (by decide) ?_
  refine xp_i hc hw 0 i 7 rfl rfl rfl rfl (by decide) (hi) rfl (ty := .int) (by decide +kernel) rfl rfl mw_437 dX0_init_16 (fun H locs hw => ?_)
  refine lv_aload_n hx hb dX0_init_19 rfl (lv_at hl 0 rfl) ?_
  refine lv_iconst (v := (-1)) hx hb dX0_init_20 (by decide) ?_
  refine xp_i hc hw 0 i 8 rfl rfl rfl rfl (by decide) (hi) rfl (ty := .int) (by decide +kernel) rfl rfl mw_439 dX0_init_21 (fun H locs hw => ?_)
  refine lv_aload_n hx hb dX0_init_24 rfl (lv_at hl 0 rfl) ?_
  refine lv_iload_n hx hb dX0_init_25 rfl (lv_at hl 1 rfl) ?_
  refine xp_F hc hw hin 0 i 0 rfl rfl rfl rfl (by decide) (hi) rfl rfl (ty := .int) (by decide +kernel) rfl rfl mw_423 dX0_init_26 (fun H locs hw => ?_)
  refine lv_aload_n hx hb dX0_init_29 rfl (lv_at hl 0 rfl) ?_
  refine lv_iload_n hx hb dX0_init_30 rfl (lv_at hl 2 rfl) ?_
  refine xp_F hc hw hin 0 i 1 rfl rfl rfl rfl (by decide) (hi) rfl rfl (ty := .int) (by decide +kernel) rfl rfl mw_425 dX0_init_31 (fun H locs hw => ?_)
  refine lv_aload_n hx hb dX0_init_34 rfl (lv_at hl 0 rfl) ?_
  refine lv_iload_n hx hb dX0_init_35 rfl (lv_at hl 3 rfl) ?_
  refine xp_i hc hw 0 i 2 rfl rfl rfl rfl (by decide) (hi) rfl (ty := .int) (by decide +kernel) rfl rfl mw_427 dX0_init_36 (fun H locs hw => ?_)
  refine lv_aload_n hx hb dX0_init_39 rfl (lv_at hl 0 rfl) ?_
  refine lv_iload hx hb dX0_init_40 (lv_at hl 4 rfl) ?_
  refine xp_F hc hw hin 0 i 3 rfl rfl rfl rfl (by decide) (hi) rfl rfl (ty := .int) (by decide +kernel) rfl rfl mw_429 dX0_init_42 (fun H locs hw => ?_)
  refine lv_aload_n hx hb dX0_init_45 rfl (lv_at hl 0 rfl) ?_
  refine lv_iload hx hb dX0_init_46 (lv_at hl 5 rfl) ?_
  refine xp_F hc hw hin 0 i 4 rfl rfl rfl rfl (by decide) (hi) rfl rfl (ty := .int) (by decide +kernel) rfl rfl mw_431 dX0_init_48 (fun H locs hw => ?_)
  exact xr_v hc hlocks hr hw (rfl) (Nat.le_of_ble_eq_true rfl) (Nat.le_of_ble_eq_true rfl) dX0_init_51
/-- X3_init -/
def q_X3_init (σ : x_St) (i : Nat) : x_St → Prop := fun σ' => σ' = f_X3_init σ i 
set_option maxHeartbeats 4000000 in
set_option maxRecDepth 100000 in
theorem c_X3_init {l : Launch} {D : va_G} {cs : Nat → ClassId} {base : Nat} {ad : Nat → Nat → Nat} {n st : Nat → Nat} {σ : x_St} (i : Nat) (hi : i < n 3) : x_Cv l yX3_init cX3_init 1 1 0 0 D cs base ad n st σ [.ref (ad 3 i)] (q_X3_init σ i ) (fun σ' => x_U D cs base ad n st σ') := by
  refine Met.ofW (cc := cX3_init) (maxL := 1) (ret := none) (by decide) rfl ?_
  intro p e s m args below meth c s₁ B hml hv
  obtain ⟨rfl, hU⟩ := hv
  have hx := B.exec
  have hb := B.bytes
  have hr := B.returns
  have hts := atoms_spec (ws := Cond.code yX3_init cX3_init 1 (none) :: Tw) B.pre
  have hown : s.vm.findClass RX3 = some m.cls := findClass_of_methodNamed B.named
  have hlocks := B.notSynchronized
  have hc : CallFix p m c cX3_init 1 s (([.ref (ad 3 i)] : List Value).toArray) Tw RX3 := ⟨hx, hb, hml, hown, fun w hw => hts w (List.mem_cons_of_mem _ hw)⟩
  have hw := x_B.start hU
  have hl := lv_entry ([.ref (ad 3 i)]) (n := 1) (Nat.le_of_ble_eq_true rfl)
  rw [lg_entry_eq]
  generalize (lg_sl ([.ref (ad 3 i)]) ++ List.replicate (1 - (lg_sl ([.ref (ad 3 i)])).length) Slot.unset).toArray = ls at hl ⊢
  have hl : lv_has ls 1 [(0, .ref (ad 3 i))] := hl
  have hin : meth.name = "<init>" := (name_of_methodNamed B.named B.method).1
  show W p l e (x_rm 1 0 0) s m ([.ref (ad 3 i)] : List Value).toArray below meth c s.heap [] 0 0 (MQ below (va_Qv (q_X3_init σ i ) (fun σ' => x_U D cs base ad n st σ') (x_A base)) ([.ref (ad 3 i)] : List Value).toArray s 0 0 (x_A base)) (F0 m 0 ls [])
  refine lv_aload_n hx hb dX3_init_0 rfl (lv_at hl 0 rfl) ?_
  refine xo_init hc mw_61 hl.1 (Nat.le_of_ble_eq_true rfl) ⟨by decide, by decide⟩ dX3_init_1 ?_
  refine lv_aload_n hx hb dX3_init_4 rfl (lv_at hl 0 rfl) ?_
  refine lv_iconst (v := 0) hx hb dX3_init_5 (by decide) ?_
  refine xp_i hc hw 3 i 0 rfl rfl rfl rfl (by decide) (hi) rfl (ty := .int) (by decide +kernel) rfl rfl mw_62 dX3_init_6 (fun H locs hw => ?_)
  refine lv_aload_n hx hb dX3_init_9 rfl (lv_at hl 0 rfl) ?_
  refine lv_bipush (v := 100) hx hb dX3_init_10 (by decide) ?_
  refine xp_i hc hw 3 i 1 rfl rfl rfl rfl (by decide) (hi) rfl (ty := .int) (by decide +kernel) rfl rfl mw_64 dX3_init_12 (fun H locs hw => ?_)
  refine lv_aload_n hx hb dX3_init_15 rfl (lv_at hl 0 rfl) ?_
  refine lv_iconst (v := 0) hx hb dX3_init_16 (by decide) ?_
  refine xp_i hc hw 3 i 2 rfl rfl rfl rfl (by decide) (hi) rfl (ty := .int) (by decide +kernel) rfl rfl mw_66 dX3_init_17 (fun H locs hw => ?_)
  refine lv_aload_n hx hb dX3_init_20 rfl (lv_at hl 0 rfl) ?_
  refine lv_iconst (v := 0) hx hb dX3_init_21 (by decide) ?_
  refine xp_i hc hw 3 i 3 rfl rfl rfl rfl (by decide) (hi) rfl (ty := .int) (by decide +kernel) rfl rfl mw_68 dX3_init_22 (fun H locs hw => ?_)
  exact xr_v hc hlocks hr hw (rfl) (Nat.le_of_ble_eq_true rfl) (Nat.le_of_ble_eq_true rfl) dX3_init_25
/-- X4_init -/
def q_X4_init (σ : x_St) (i : Nat) (a b d f g h k : Int32) : x_St → Prop := fun σ' => σ' = f_X4_init σ i a b d f g h k
set_option maxHeartbeats 4000000 in
set_option maxRecDepth 100000 in
theorem c_X4_init {l : Launch} {D : va_G} {cs : Nat → ClassId} {base : Nat} {ad : Nat → Nat → Nat} {n st : Nat → Nat} {σ : x_St} (i : Nat) (a b d f g h k : Int32) (hi : i < n 4) : x_Cv l yX4_init cX4_init 8 1 0 0 D cs base ad n st σ [.ref (ad 4 i), .int a, .int b, .int d, .int f, .int g, .int h, .int k] (q_X4_init σ i a b d f g h k) (fun σ' => x_U D cs base ad n st σ') := by
  refine Met.ofW (cc := cX4_init) (maxL := 8) (ret := none) (by decide) rfl ?_
  intro p e s m args below meth c s₁ B hml hv
  obtain ⟨rfl, hU⟩ := hv
  have hx := B.exec
  have hb := B.bytes
  have hr := B.returns
  have hts := atoms_spec (ws := Cond.code yX4_init cX4_init 8 (none) :: Tw) B.pre
  have hown : s.vm.findClass RX4 = some m.cls := findClass_of_methodNamed B.named
  have hlocks := B.notSynchronized
  have hc : CallFix p m c cX4_init 8 s (([.ref (ad 4 i), .int a, .int b, .int d, .int f, .int g, .int h, .int k] : List Value).toArray) Tw RX4 := ⟨hx, hb, hml, hown, fun w hw => hts w (List.mem_cons_of_mem _ hw)⟩
  have hw := x_B.start hU
  have hl := lv_entry ([.ref (ad 4 i), .int a, .int b, .int d, .int f, .int g, .int h, .int k]) (n := 8) (Nat.le_of_ble_eq_true rfl)
  rw [lg_entry_eq]
  generalize (lg_sl ([.ref (ad 4 i), .int a, .int b, .int d, .int f, .int g, .int h, .int k]) ++ List.replicate (8 - (lg_sl ([.ref (ad 4 i), .int a, .int b, .int d, .int f, .int g, .int h, .int k])).length) Slot.unset).toArray = ls at hl ⊢
  have hl : lv_has ls 8 [(0, .ref (ad 4 i)), (1, .int a), (2, .int b), (3, .int d), (4, .int f), (5, .int g), (6, .int h), (7, .int k)] := hl
  have hin : meth.name = "<init>" := (name_of_methodNamed B.named B.method).1
  show W p l e (x_rm 1 0 0) s m ([.ref (ad 4 i), .int a, .int b, .int d, .int f, .int g, .int h, .int k] : List Value).toArray below meth c s.heap [] 0 0 (MQ below (va_Qv (q_X4_init σ i a b d f g h k) (fun σ' => x_U D cs base ad n st σ') (x_A base)) ([.ref (ad 4 i), .int a, .int b, .int d, .int f, .int g, .int h, .int k] : List Value).toArray s 0 0 (x_A base)) (F0 m 0 ls [])
  refine lv_aload_n hx hb dX4_init_0 rfl (lv_at hl 0 rfl) ?_
  refine xo_init hc mw_198 hl.1 (Nat.le_of_ble_eq_true rfl) ⟨by decide, by decide⟩ dX4_init_1 ?_
  refine lv_aload_n hx hb dX4_init_4 rfl (lv_at hl 0 rfl) ?_
  refine lv_iconst (v := (-1)) hx hb dX4_init_5 (by decide) ?_
  refine xp_i hc hw 4 i 7 rfl rfl rfl rfl (by decide) (hi) rfl (ty := .int) (by decide +kernel) rfl rfl mw_208 dX4_init_6 (fun H locs hw => ?_)
  refine lv_aload_n hx hb dX4_init_9 rfl (lv_at hl 0 rfl) ?_
  refine lv_iload_n hx hb dX4_init_10 rfl (lv_at hl 1 rfl) ?_
  refine xp_F hc hw hin 4 i 0 rfl rfl rfl rfl (by decide) (hi) rfl rfl (ty := .int) (by decide +kernel) rfl rfl mw_199 dX4_init_11 (fun H locs hw => ?_)
  refine lv_aload_n hx hb dX4_init_14 rfl (lv_at hl 0 rfl) ?_
  refine lv_iload_n hx hb dX4_init_15 rfl (lv_at hl 2 rfl) ?_
  refine xp_F hc hw hin 4 i 1 rfl rfl rfl rfl (by decide) (hi) rfl rfl (ty := .int) (by decide +kernel) rfl rfl mw_201 dX4_init_16 (fun H locs hw => ?_)
  refine lv_aload_n hx hb dX4_init_19 rfl (lv_at hl 0 rfl) ?_
  refine lv_iload_n hx hb dX4_init_20 rfl (lv_at hl 3 rfl) ?_
  refine xp_F hc hw hin 4 i 2 rfl rfl rfl rfl (by decide) (hi) rfl rfl (ty := .int) (by decide +kernel) rfl rfl mw_202 dX4_init_21 (fun H locs hw => ?_)
  refine lv_aload_n hx hb dX4_init_24 rfl (lv_at hl 0 rfl) ?_
  refine lv_iload hx hb dX4_init_25 (lv_at hl 4 rfl) ?_
  refine xp_F hc hw hin 4 i 3 rfl rfl rfl rfl (by decide) (hi) rfl rfl (ty := .int) (by decide +kernel) rfl rfl mw_203 dX4_init_27 (fun H locs hw => ?_)
  refine lv_aload_n hx hb dX4_init_30 rfl (lv_at hl 0 rfl) ?_
  refine lv_iload hx hb dX4_init_31 (lv_at hl 5 rfl) ?_
  refine xp_F hc hw hin 4 i 4 rfl rfl rfl rfl (by decide) (hi) rfl rfl (ty := .int) (by decide +kernel) rfl rfl mw_204 dX4_init_33 (fun H locs hw => ?_)
  refine lv_aload_n hx hb dX4_init_36 rfl (lv_at hl 0 rfl) ?_
  refine lv_iload hx hb dX4_init_37 (lv_at hl 6 rfl) ?_
  refine xp_F hc hw hin 4 i 5 rfl rfl rfl rfl (by decide) (hi) rfl rfl (ty := .int) (by decide +kernel) rfl rfl mw_205 dX4_init_39 (fun H locs hw => ?_)
  refine lv_aload_n hx hb dX4_init_42 rfl (lv_at hl 0 rfl) ?_
  refine lv_iload hx hb dX4_init_43 (lv_at hl 7 rfl) ?_
  refine xp_F hc hw hin 4 i 6 rfl rfl rfl rfl (by decide) (hi) rfl rfl (ty := .int) (by decide +kernel) rfl rfl mw_207 dX4_init_45 (fun H locs hw => ?_)
  exact xr_v hc hlocks hr hw (rfl) (Nat.le_of_ble_eq_true rfl) (Nat.le_of_ble_eq_true rfl) dX4_init_48
/-- X1_init -/
def q_X1_init (ad : Nat → Nat → Nat) (n : Nat → Nat) : (Nat → Nat → Nat) → Prop := fun ad' => ∀ a b, b < n a → ad' a b = ad a b
set_option maxHeartbeats 4000000 in
set_option maxRecDepth 100000 in
theorem c_X1_init {l : Launch} {D : va_G} {cs : Nat → ClassId} {base : Nat} {ad : Nat → Nat → Nat} {n st : Nat → Nat} {σ : x_St} (i : Nat) (a b d : Int32) (hi : i < n 1) (h10 : n 10 = i) (l10 : st 110 = i) : x_Cv l yX1_init cX1_init 4 1 1 12 D cs base ad n st σ [.ref (ad 1 i), .int a, .int b, .int d] (q_X1_init ad n) (fun ad' => x_U D cs base ad' (fn_X1_init n i) (fs_X1_init st i) (f_X1_init σ i a b d)) := by
  refine Met.ofW (cc := cX1_init) (maxL := 4) (ret := none) (by decide) rfl ?_
  intro p e s m args below meth c s₁ B hml hv
  obtain ⟨rfl, hU⟩ := hv
  have hx := B.exec
  have hb := B.bytes
  have hr := B.returns
  have hts := atoms_spec (ws := Cond.code yX1_init cX1_init 4 (none) :: Tw) B.pre
  have hown : s.vm.findClass RX1 = some m.cls := findClass_of_methodNamed B.named
  have hlocks := B.notSynchronized
  have hc : CallFix p m c cX1_init 4 s (([.ref (ad 1 i), .int a, .int b, .int d] : List Value).toArray) Tw RX1 := ⟨hx, hb, hml, hown, fun w hw => hts w (List.mem_cons_of_mem _ hw)⟩
  have hw := x_B.start hU
  have hl := lv_entry ([.ref (ad 1 i), .int a, .int b, .int d]) (n := 4) (Nat.le_of_ble_eq_true rfl)
  rw [lg_entry_eq]
  generalize (lg_sl ([.ref (ad 1 i), .int a, .int b, .int d]) ++ List.replicate (4 - (lg_sl ([.ref (ad 1 i), .int a, .int b, .int d])).length) Slot.unset).toArray = ls at hl ⊢
  have hl : lv_has ls 4 [(0, .ref (ad 1 i)), (1, .int a), (2, .int b), (3, .int d)] := hl
  generalize ([.ref (ad 1 i), .int a, .int b, .int d] : List Value).toArray = args at hc ⊢
  have hin : meth.name = "<init>" := (name_of_methodNamed B.named B.method).1
  show W p l e (x_rm 1 1 12) s m args below meth c s.heap [] 0 0 (MQ below (va_Qv (q_X1_init ad n) (fun ad' => x_U D cs base ad' (fn_X1_init n i) (fs_X1_init st i) (f_X1_init σ i a b d)) (x_A base)) args s 1 12 (x_A base)) (F0 m 0 ls [])
  refine lv_aload_n hx hb dX1_init_0 rfl (lv_at hl 0 rfl) ?_
  refine xo_init hc mw_558 hl.1 (Nat.le_of_ble_eq_true rfl) ⟨by decide, by decide⟩ dX1_init_1 ?_
  refine lv_aload_n hx hb dX1_init_4 rfl (lv_at hl 0 rfl) ?_
  refine lv_bipush (v := 12) hx hb dX1_init_5 (by decide) ?_
  refine xn_iarr hc hw 10 i rfl (by decide) (h10) (Nat.le_of_eq l10) rfl (Nat.le_of_ble_eq_true rfl) (Nat.le_of_ble_eq_true rfl) dX1_init_7 (fun ad_7 H hag_7 hw => ?_)
  have hl : lv_has ls 4 [(0, .ref (ad_7 1 i)), (1, .int a), (2, .int b), (3, .int d)] := by rw [hag_7 1 i (fun z => absurd z.1 (by decide))]; exact hl
  rw [← hag_7 1 i (fun z => absurd z.1 (by decide))]
  refine xp_L hc hw hin 1 i 3 10 rfl rfl rfl rfl (by decide) (by decide) (hi) (l10) rfl rfl (ty := .array .int) (by decide +kernel) rfl rfl mw_571 dX1_init_9 (fun H locs hw => ?_)
  refine lv_aload_n hx hb dX1_init_12 rfl (lv_at hl 0 rfl) ?_
  refine lv_bipush (v := 9) hx hb dX1_init_13 (by decide) ?_
  refine xp_i hc hw 1 i 4 rfl rfl rfl rfl (by decide) (hi) rfl (ty := .int) (by decide +kernel) rfl rfl mw_573 dX1_init_15 (fun H locs hw => ?_)
  refine lv_aload_n hx hb dX1_init_18 rfl (lv_at hl 0 rfl) ?_
  refine lv_iconst (v := 0) hx hb dX1_init_19 (by decide) ?_
  refine xp_i hc hw 1 i 5 rfl rfl rfl rfl (by decide) (hi) rfl (ty := .int) (by decide +kernel) rfl rfl mw_575 dX1_init_20 (fun H locs hw => ?_)
  refine lv_aload_n hx hb dX1_init_23 rfl (lv_at hl 0 rfl) ?_
  refine lv_iconst (v := (-1)) hx hb dX1_init_24 (by decide) ?_
  refine xp_i hc hw 1 i 6 rfl rfl rfl rfl (by decide) (hi) rfl (ty := .int) (by decide +kernel) rfl rfl mw_577 dX1_init_25 (fun H locs hw => ?_)
  refine lv_aload_n hx hb dX1_init_28 rfl (lv_at hl 0 rfl) ?_
  refine lv_iload_n hx hb dX1_init_29 rfl (lv_at hl 1 rfl) ?_
  refine xp_F hc hw hin 1 i 0 rfl rfl rfl rfl (by decide) (hi) rfl rfl (ty := .int) (by decide +kernel) rfl rfl mw_559 dX1_init_30 (fun H locs hw => ?_)
  refine lv_aload_n hx hb dX1_init_33 rfl (lv_at hl 0 rfl) ?_
  refine lv_iload_n hx hb dX1_init_34 rfl (lv_at hl 2 rfl) ?_
  refine xp_F hc hw hin 1 i 1 rfl rfl rfl rfl (by decide) (hi) rfl rfl (ty := .int) (by decide +kernel) rfl rfl mw_563 dX1_init_35 (fun H locs hw => ?_)
  refine lv_aload_n hx hb dX1_init_38 rfl (lv_at hl 0 rfl) ?_
  refine lv_iload_n hx hb dX1_init_39 rfl (lv_at hl 3 rfl) ?_
  refine xp_F hc hw hin 1 i 2 rfl rfl rfl rfl (by decide) (hi) rfl rfl (ty := .int) (by decide +kernel) rfl rfl mw_567 dX1_init_40 (fun H locs hw => ?_)
  exact xr_v hc hlocks hr hw (fun a b hb => (x_ag hag_7 (Nat.le_of_eq h10) hb)) (Nat.le_of_ble_eq_true rfl) (Nat.le_of_ble_eq_true rfl) dX1_init_43
/-- X2_init -/
def q_X2_init (ad : Nat → Nat → Nat) (n : Nat → Nat) : (Nat → Nat → Nat) → Prop := fun ad' => ∀ a b, b < n a → ad' a b = ad a b
set_option maxHeartbeats 4000000 in
set_option maxRecDepth 100000 in
theorem c_X2_init {l : Launch} {D : va_G} {cs : Nat → ClassId} {base : Nat} {ad : Nat → Nat → Nat} {n st : Nat → Nat} {σ : x_St} (i : Nat) (hi : i < n 2) (h11 : n 11 = i) (l11 : st 111 = i) (h12 : n 12 = i) (l12 : st 112 = i) (h13 : n 13 = i) (l13 : st 113 = i) (h14 : n 14 = i) (l14 : st 114 = i) : x_Cv l yX2_init cX2_init 1 1 4 26464 D cs base ad n st σ [.ref (ad 2 i)] (q_X2_init ad n) (fun ad' => x_U D cs base ad' (fn_X2_init n i) (fs_X2_init st i) (f_X2_init σ i)) := by
  refine Met.ofW (cc := cX2_init) (maxL := 1) (ret := none) (by decide) rfl ?_
  intro p e s m args below meth c s₁ B hml hv
  obtain ⟨rfl, hU⟩ := hv
  have hx := B.exec
  have hb := B.bytes
  have hr := B.returns
  have hts := atoms_spec (ws := Cond.code yX2_init cX2_init 1 (none) :: Tw) B.pre
  have hown : s.vm.findClass RX2 = some m.cls := findClass_of_methodNamed B.named
  have hlocks := B.notSynchronized
  have hc : CallFix p m c cX2_init 1 s (([.ref (ad 2 i)] : List Value).toArray) Tw RX2 := ⟨hx, hb, hml, hown, fun w hw => hts w (List.mem_cons_of_mem _ hw)⟩
  have hw := x_B.start hU
  have hl := lv_entry ([.ref (ad 2 i)]) (n := 1) (Nat.le_of_ble_eq_true rfl)
  rw [lg_entry_eq]
  generalize (lg_sl ([.ref (ad 2 i)]) ++ List.replicate (1 - (lg_sl ([.ref (ad 2 i)])).length) Slot.unset).toArray = ls at hl ⊢
  have hl : lv_has ls 1 [(0, .ref (ad 2 i))] := hl
  generalize ([.ref (ad 2 i)] : List Value).toArray = args at hc ⊢
  have hin : meth.name = "<init>" := (name_of_methodNamed B.named B.method).1
  show W p l e (x_rm 1 4 26464) s m args below meth c s.heap [] 0 0 (MQ below (va_Qv (q_X2_init ad n) (fun ad' => x_U D cs base ad' (fn_X2_init n i) (fs_X2_init st i) (f_X2_init σ i)) (x_A base)) args s 4 26464 (x_A base)) (F0 m 0 ls [])
  refine lv_aload_n hx hb dX2_init_0 rfl (lv_at hl 0 rfl) ?_
  refine xo_init hc mw_39 hl.1 (Nat.le_of_ble_eq_true rfl) ⟨by decide, by decide⟩ dX2_init_1 ?_
  refine lv_aload_n hx hb dX2_init_4 rfl (lv_at hl 0 rfl) ?_
  refine lv_bipush (v := 40) hx hb dX2_init_5 (by decide) ?_
  refine xn_iarr hc hw 11 i rfl (by decide) (h11) (Nat.le_of_eq l11) rfl (Nat.le_of_ble_eq_true rfl) (Nat.le_of_ble_eq_true rfl) dX2_init_7 (fun ad_7 H hag_7 hw => ?_)
  have hl : lv_has ls 1 [(0, .ref (ad_7 2 i))] := by rw [hag_7 2 i (fun z => absurd z.1 (by decide))]; exact hl
  rw [← hag_7 2 i (fun z => absurd z.1 (by decide))]
  refine xp_L hc hw hin 2 i 0 11 rfl rfl rfl rfl (by decide) (by decide) (hi) (l11) rfl rfl (ty := .array .int) (by decide +kernel) rfl rfl mw_40 dX2_init_9 (fun H locs hw => ?_)
  refine lv_aload_n hx hb dX2_init_12 rfl (lv_at hl 0 rfl) ?_
  refine lv_iconst (v := 0) hx hb dX2_init_13 (by decide) ?_
  refine xp_i hc hw 2 i 1 rfl rfl rfl rfl (by decide) (hi) rfl (ty := .int) (by decide +kernel) rfl rfl mw_41 dX2_init_14 (fun H locs hw => ?_)
  refine lv_aload_n hx hb dX2_init_17 rfl (lv_at hl 0 rfl) ?_
  refine lv_sipush (v := 144) hx hb dX2_init_18 (by decide) ?_
  refine xn_iarr hc hw 12 i rfl (by decide) (h12) (Nat.le_of_eq l12) rfl (Nat.le_of_ble_eq_true rfl) (Nat.le_of_ble_eq_true rfl) dX2_init_21 (fun ad_21 H hag_21 hw => ?_)
  have hl : lv_has ls 1 [(0, .ref (ad_21 2 i))] := by rw [hag_21 2 i (fun z => absurd z.1 (by decide))]; exact hl
  rw [← hag_21 2 i (fun z => absurd z.1 (by decide))]
  refine xp_L hc hw hin 2 i 2 12 rfl rfl rfl rfl (by decide) (by decide) (hi) (l12) rfl rfl (ty := .array .int) (by decide +kernel) rfl rfl mw_42 dX2_init_23 (fun H locs hw => ?_)
  refine lv_aload_n hx hb dX2_init_26 rfl (lv_at hl 0 rfl) ?_
  refine lv_sipush (v := 26244) hx hb dX2_init_27 (by decide) ?_
  refine xn_iarr hc hw 13 i rfl (by decide) (h13) (Nat.le_of_eq l13) rfl (Nat.le_of_ble_eq_true rfl) (Nat.le_of_ble_eq_true rfl) dX2_init_30 (fun ad_30 H hag_30 hw => ?_)
  have hl : lv_has ls 1 [(0, .ref (ad_30 2 i))] := by rw [hag_30 2 i (fun z => absurd z.1 (by decide))]; exact hl
  rw [← hag_30 2 i (fun z => absurd z.1 (by decide))]
  refine xp_L hc hw hin 2 i 3 13 rfl rfl rfl rfl (by decide) (by decide) (hi) (l13) rfl rfl (ty := .array .int) (by decide +kernel) rfl rfl mw_43 dX2_init_32 (fun H locs hw => ?_)
  refine lv_aload_n hx hb dX2_init_35 rfl (lv_at hl 0 rfl) ?_
  refine lv_bipush (v := 36) hx hb dX2_init_36 (by decide) ?_
  refine xn_iarr hc hw 14 i rfl (by decide) (h14) (Nat.le_of_eq l14) rfl (Nat.le_of_ble_eq_true rfl) (Nat.le_of_ble_eq_true rfl) dX2_init_38 (fun ad_38 H hag_38 hw => ?_)
  have hl : lv_has ls 1 [(0, .ref (ad_38 2 i))] := by rw [hag_38 2 i (fun z => absurd z.1 (by decide))]; exact hl
  rw [← hag_38 2 i (fun z => absurd z.1 (by decide))]
  refine xp_L hc hw hin 2 i 4 14 rfl rfl rfl rfl (by decide) (by decide) (hi) (l14) rfl rfl (ty := .array .int) (by decide +kernel) rfl rfl mw_44 dX2_init_40 (fun H locs hw => ?_)
  exact xr_v hc hlocks hr hw (fun a b hb => (Eq.trans (x_ag hag_38 (Nat.le_of_eq h14) hb) (Eq.trans (x_ag hag_30 (Nat.le_of_eq h13) hb) (Eq.trans (x_ag hag_21 (Nat.le_of_eq h12) hb) (x_ag hag_7 (Nat.le_of_eq h11) hb))))) (Nat.le_of_ble_eq_true rfl) (Nat.le_of_ble_eq_true rfl) dX2_init_43
/-- X5_init -/
def q_X5_init (ad : Nat → Nat → Nat) (n : Nat → Nat) : (Nat → Nat → Nat) → Prop := fun ad' => ∀ a b, b < n a → ad' a b = ad a b
set_option maxHeartbeats 4000000 in
set_option maxRecDepth 100000 in
theorem c_X5_init {l : Launch} {D : va_G} {cs : Nat → ClassId} {base : Nat} {ad : Nat → Nat → Nat} {n st : Nat → Nat} {σ : x_St} (i : Nat) (a b d : Int32) (hi : i < n 5) (h15 : n 15 = i) (l15 : st 115 = i) (h16 : n 16 = i) (l16 : st 116 = i) (h17 : n 17 = i) (l17 : st 117 = i) : x_Cv l yX5_init cX5_init 4 1 3 108 D cs base ad n st σ [.ref (ad 5 i), .int a, .int b, .int d] (q_X5_init ad n) (fun ad' => x_U D cs base ad' (fn_X5_init n i) (fs_X5_init st i) (f_X5_init σ i a b d)) := by
  refine Met.ofW (cc := cX5_init) (maxL := 4) (ret := none) (by decide) rfl ?_
  intro p e s m args below meth c s₁ B hml hv
  obtain ⟨rfl, hU⟩ := hv
  have hx := B.exec
  have hb := B.bytes
  have hr := B.returns
  have hts := atoms_spec (ws := Cond.code yX5_init cX5_init 4 (none) :: Tw) B.pre
  have hown : s.vm.findClass RX5 = some m.cls := findClass_of_methodNamed B.named
  have hlocks := B.notSynchronized
  have hc : CallFix p m c cX5_init 4 s (([.ref (ad 5 i), .int a, .int b, .int d] : List Value).toArray) Tw RX5 := ⟨hx, hb, hml, hown, fun w hw => hts w (List.mem_cons_of_mem _ hw)⟩
  have hw := x_B.start hU
  have hl := lv_entry ([.ref (ad 5 i), .int a, .int b, .int d]) (n := 4) (Nat.le_of_ble_eq_true rfl)
  rw [lg_entry_eq]
  generalize (lg_sl ([.ref (ad 5 i), .int a, .int b, .int d]) ++ List.replicate (4 - (lg_sl ([.ref (ad 5 i), .int a, .int b, .int d])).length) Slot.unset).toArray = ls at hl ⊢
  have hl : lv_has ls 4 [(0, .ref (ad 5 i)), (1, .int a), (2, .int b), (3, .int d)] := hl
  generalize ([.ref (ad 5 i), .int a, .int b, .int d] : List Value).toArray = args at hc ⊢
  have hin : meth.name = "<init>" := (name_of_methodNamed B.named B.method).1
  show W p l e (x_rm 1 3 108) s m args below meth c s.heap [] 0 0 (MQ below (va_Qv (q_X5_init ad n) (fun ad' => x_U D cs base ad' (fn_X5_init n i) (fs_X5_init st i) (f_X5_init σ i a b d)) (x_A base)) args s 3 108 (x_A base)) (F0 m 0 ls [])
  refine lv_aload_n hx hb dX5_init_0 rfl (lv_at hl 0 rfl) ?_
  refine xo_init hc mw_133 hl.1 (Nat.le_of_ble_eq_true rfl) ⟨by decide, by decide⟩ dX5_init_1 ?_
  refine lv_aload_n hx hb dX5_init_4 rfl (lv_at hl 0 rfl) ?_
  refine lv_bipush (v := 36) hx hb dX5_init_5 (by decide) ?_
  refine xn_iarr hc hw 15 i rfl (by decide) (h15) (Nat.le_of_eq l15) rfl (Nat.le_of_ble_eq_true rfl) (Nat.le_of_ble_eq_true rfl) dX5_init_7 (fun ad_7 H hag_7 hw => ?_)
  have hl : lv_has ls 4 [(0, .ref (ad_7 5 i)), (1, .int a), (2, .int b), (3, .int d)] := by rw [hag_7 5 i (fun z => absurd z.1 (by decide))]; exact hl
  rw [← hag_7 5 i (fun z => absurd z.1 (by decide))]
  refine xp_L hc hw hin 5 i 3 15 rfl rfl rfl rfl (by decide) (by decide) (hi) (l15) rfl rfl (ty := .array .int) (by decide +kernel) rfl rfl mw_142 dX5_init_9 (fun H locs hw => ?_)
  refine lv_aload_n hx hb dX5_init_12 rfl (lv_at hl 0 rfl) ?_
  refine lv_iconst (v := 0) hx hb dX5_init_13 (by decide) ?_
  refine xp_i hc hw 5 i 4 rfl rfl rfl rfl (by decide) (hi) rfl (ty := .boolean) (by decide +kernel) rfl rfl mw_143 dX5_init_14 (fun H locs hw => ?_)
  refine lv_aload_n hx hb dX5_init_17 rfl (lv_at hl 0 rfl) ?_
  refine lv_bipush (v := 36) hx hb dX5_init_18 (by decide) ?_
  refine xn_iarr hc hw 16 i rfl (by decide) (h16) (Nat.le_of_eq l16) rfl (Nat.le_of_ble_eq_true rfl) (Nat.le_of_ble_eq_true rfl) dX5_init_20 (fun ad_20 H hag_20 hw => ?_)
  have hl : lv_has ls 4 [(0, .ref (ad_20 5 i)), (1, .int a), (2, .int b), (3, .int d)] := by rw [hag_20 5 i (fun z => absurd z.1 (by decide))]; exact hl
  rw [← hag_20 5 i (fun z => absurd z.1 (by decide))]
  refine xp_L hc hw hin 5 i 5 16 rfl rfl rfl rfl (by decide) (by decide) (hi) (l16) rfl rfl (ty := .array .int) (by decide +kernel) rfl rfl mw_145 dX5_init_22 (fun H locs hw => ?_)
  refine lv_aload_n hx hb dX5_init_25 rfl (lv_at hl 0 rfl) ?_
  refine lv_bipush (v := 36) hx hb dX5_init_26 (by decide) ?_
  refine xn_iarr hc hw 17 i rfl (by decide) (h17) (Nat.le_of_eq l17) rfl (Nat.le_of_ble_eq_true rfl) (Nat.le_of_ble_eq_true rfl) dX5_init_28 (fun ad_28 H hag_28 hw => ?_)
  have hl : lv_has ls 4 [(0, .ref (ad_28 5 i)), (1, .int a), (2, .int b), (3, .int d)] := by rw [hag_28 5 i (fun z => absurd z.1 (by decide))]; exact hl
  rw [← hag_28 5 i (fun z => absurd z.1 (by decide))]
  refine xp_L hc hw hin 5 i 6 17 rfl rfl rfl rfl (by decide) (by decide) (hi) (l17) rfl rfl (ty := .array .int) (by decide +kernel) rfl rfl mw_148 dX5_init_30 (fun H locs hw => ?_)
  refine lv_aload_n hx hb dX5_init_33 rfl (lv_at hl 0 rfl) ?_
  refine lv_iconst (v := 0) hx hb dX5_init_34 (by decide) ?_
  refine xp_i hc hw 5 i 7 rfl rfl rfl rfl (by decide) (hi) rfl (ty := .int) (by decide +kernel) rfl rfl mw_151 dX5_init_35 (fun H locs hw => ?_)
  refine lv_aload_n hx hb dX5_init_38 rfl (lv_at hl 0 rfl) ?_
  refine lv_iconst (v := 0) hx hb dX5_init_39 (by decide) ?_
  refine xp_i hc hw 5 i 8 rfl rfl rfl rfl (by decide) (hi) rfl (ty := .int) (by decide +kernel) rfl rfl mw_154 dX5_init_40 (fun H locs hw => ?_)
  refine lv_aload_n hx hb dX5_init_43 rfl (lv_at hl 0 rfl) ?_
  refine lv_iconst (v := (-1)) hx hb dX5_init_44 (by decide) ?_
  refine xp_i hc hw 5 i 9 rfl rfl rfl rfl (by decide) (hi) rfl (ty := .int) (by decide +kernel) rfl rfl mw_157 dX5_init_45 (fun H locs hw => ?_)
  refine lv_aload_n hx hb dX5_init_48 rfl (lv_at hl 0 rfl) ?_
  refine lv_iload_n hx hb dX5_init_49 rfl (lv_at hl 1 rfl) ?_
  refine xp_F hc hw hin 5 i 0 rfl rfl rfl rfl (by decide) (hi) rfl rfl (ty := .int) (by decide +kernel) rfl rfl mw_134 dX5_init_50 (fun H locs hw => ?_)
  refine lv_aload_n hx hb dX5_init_53 rfl (lv_at hl 0 rfl) ?_
  refine lv_iload_n hx hb dX5_init_54 rfl (lv_at hl 2 rfl) ?_
  refine xp_F hc hw hin 5 i 1 rfl rfl rfl rfl (by decide) (hi) rfl rfl (ty := .int) (by decide +kernel) rfl rfl mw_137 dX5_init_55 (fun H locs hw => ?_)
  refine lv_aload_n hx hb dX5_init_58 rfl (lv_at hl 0 rfl) ?_
  refine lv_iload_n hx hb dX5_init_59 rfl (lv_at hl 3 rfl) ?_
  refine xp_F hc hw hin 5 i 2 rfl rfl rfl rfl (by decide) (hi) rfl rfl (ty := .int) (by decide +kernel) rfl rfl mw_140 dX5_init_60 (fun H locs hw => ?_)
  exact xr_v hc hlocks hr hw (fun a b hb => (Eq.trans (x_ag hag_28 (Nat.le_of_eq h17) hb) (Eq.trans (x_ag hag_20 (Nat.le_of_eq h16) hb) (x_ag hag_7 (Nat.le_of_eq h15) hb)))) (Nat.le_of_ble_eq_true rfl) (Nat.le_of_ble_eq_true rfl) dX5_init_63
