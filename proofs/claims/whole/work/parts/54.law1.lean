/-- a method with an exception table, that answers an int and throws nothing -/
abbrev x_Wi (l : Launch) (y : MethodName) (cc : ByteArray) (nL : Nat) (ret : Option FieldType) (hh : List (Nat × Nat × Nat × Nat)) (d mc ms : Nat) (D : va_G) (cs : Nat → ClassId) (base : Nat) (ad : Nat → Nat → Nat) (n st : Nat → Nat) (σ : x_St) (av : List Value) {S : Type} (post : Int32 → S → Prop) (B : S → State → Prop) : Prop :=
  Met l y (Cond.codeWith y cc nL ret hh :: Tw) (x_rm d mc ms) (va_Pc av (x_U D cs base ad n st σ)) (va_Qi post B (x_A base)) mc ms (x_A base)
section XW
variable {p : Program} {l : Launch} {e : Env} {R : Room} {s : State} {m : MethodId} {args : Array Value} {below : List Frame} {meth : Method} {c : Code} {H : Heap} {locs : List Loc} {cells slots : Nat} {Q : State → Prop}
variable {cc : ByteArray} {nL pc : Nat} {own : String} {ls : Array Slot} {rest : List Value} {D : va_G} {cs : Nat → ClassId} {base : Nat} {ad : Nat → Nat → Nat} {n st : Nat → Nat} {σ : x_St}
theorem xh_cast (hw : x_B D cs base ad n st σ s H locs) {E : String} (h : Cond.castable E E ∈ x_Nws) : (Cond.castable E E).before args s = true :=
  va_tabs (x_Nws_on (List.mem_filter.mp h).2) rfl (hw.2.2.2.2.2.2.2.2.1 _ h)
theorem xh_1 (hc : CallFix p m c cc nL s args Tw own) (hw : x_B D cs base ad n st σ s H locs) {hh : List (Nat × Nat × Nat × Nat)} (htab : c.exceptionTable.toList = tableOf hh) {x : ExceptionTableEntry} {suf : List ExceptionTableEntry} (hs : tableOf hh = x :: suf) (hx : covers x pc = true ∧ x.catchType ≠ 0) {E : String} {ce : Cell} {q : Addr} (hlink : Cond.classLink own x.catchType E ∈ Tw) (hcast : Cond.castable E E ∈ x_Nws)
    (hcell : H[q]? = some ce) (hv : ce.vm = .none) (hcl : s.vm.findClass E = some ce.cls) (kk : W p l e R s m args below meth c H locs cells slots Q (F0 m x.handlerPc ls [.ref q])) : vx_W p l e R s m args below meth c H locs cells slots Q (F0 m pc ls rest) q :=
  vx_catch hc.2.2.2.1 [] x suf (by rw [htab, hs]; rfl) (fun z hz => nomatch hz) hx.1 hx.2 (hc.2.2.2.2 _ hlink) (xh_cast hw hcast) hcell hv hcl kk
theorem xh_2 (hc : CallFix p m c cc nL s args Tw own) (hw : x_B D cs base ad n st σ s H locs) {hh : List (Nat × Nat × Nat × Nat)} (htab : c.exceptionTable.toList = tableOf hh) {z x : ExceptionTableEntry} {suf : List ExceptionTableEntry} (hs : tableOf hh = z :: x :: suf) (hx : covers x pc = true ∧ x.catchType ≠ 0) (hz : z.catchType ≠ 0) {ce : Cell} {q : Addr} (hlink : Cond.classLink own x.catchType x_iae ∈ Tw) (hlz : Cond.classLink own z.catchType x_nse ∈ Tw) (hcast : Cond.castable x_iae x_iae ∈ x_Nws)
    (hcell : H[q]? = some ce) (hv : ce.vm = .none) (hcl : s.vm.findClass x_iae = some ce.cls) (kk : W p l e R s m args below meth c H locs cells slots Q (F0 m x.handlerPc ls [.ref q])) : vx_W p l e R s m args below meth c H locs cells slots Q (F0 m pc ls rest) q :=
  vx_catch hc.2.2.2.1 [z] x suf (by rw [htab, hs]; rfl) (fun y hy => by
    rw [List.mem_singleton.mp hy]
    exact Or.inr ⟨hz, x_nse, hc.2.2.2.2 _ hlz, hw.2.2.2.2.2.2.2.2.2.2.2.1⟩) hx.1 hx.2 (hc.2.2.2.2 _ hlink) (xh_cast hw hcast) hcell hv hcl kk
variable {y : MethodName} {cc' : ByteArray} {nL' d mc ms index np : Nat} {ret : Option FieldType}
variable {S : Type} {fa : S → Nat → Nat → Nat} {fn fs : S → Nat → Nat} {fσ : S → x_St}
/-- a static call of a method with an exception table -/
theorem xc_Wi (hc : CallFix p m c cc nL s args Tw own) (hw : x_B D cs base ad n st σ s H locs) {hh : List (Nat × Nat × Nat × Nat)} {av : List Value} {post : Int32 → S → Prop} (hM : x_Wi l y cc' nL' ret hh d mc ms D cs base ad n st σ av post (fun u => x_U D cs base (fa u) (fn u) (fs u) (fσ u)))
    (hcode : Cond.codeWith y cc' nL' ret hh ∈ Tw) (hlink : Cond.methodLink own index y ∈ Tw) (hini : Cond.initialized y.cls ∈ Tw) (hsta : Cond.static y ∈ Tw) (hd : x_cd y av.length) (hR : d + 1 ≤ R.frames ∧ 8 + (nL' + 11) + 40 * d ≤ R.locals) {stk : List Value} (hstk : stk = av.reverse ++ rest)
    (hsz : ls.size = nL) (hcat : (rest.map fun v => v.category).sum ≤ 8) (hdg : decode cc pc = .ok (.invokestatic index, 3)) (hf : cells + mc ≤ R.cells ∧ slots + ms ≤ R.slots)
    (kk : ∀ (r : Int32) (u : S) (H1 : Heap) (locs1 : List Loc), post r u → x_B D cs base (fa u) (fn u) (fs u) (fσ u) s H1 locs1 → W p l e R s m args below meth c H1 locs1 (cells + mc) (slots + ms) Q (F0 m (pc + 3) ls (.int r :: rest))) : W p l e R s m args below meth c H locs cells slots Q (F0 m pc ls stk) := by
  have hG : GoodIn Tw (va_wsS own index y (Cond.codeWith y cc' nL' ret hh :: Tw)) := fun w h => by
    have hm : w ∈ Tw := by
      rcases List.mem_append.mp h with h | h
      · simp at h
        rcases h with rfl | rfl | rfl <;> assumption
      · rcases List.mem_cons.mp h with rfl | h
        · exact hcode
        · exact h
    exact ⟨hm, good_of_word (Tw_good _ hm)⟩
  refine va_calli (vx_runSW (As := av) (rest := rest) hc hM (vx_cwSW (hh := hh) av.length hc.2.2.2.2 hG rfl rfl rfl hd hR) (x_preS hw av) rfl rfl hsz hstk (by show 2 * 0 + _ ≤ 8; omega) hdg hf) hw.2.2.1 (fun q _ h => h) (fun q h => h) (fun r u t H1 locs1 ht hvm hp hB hz hk hS => ?_)
  exact kk r u H1 locs1 hp (hw.back ht hB hS)
end XW
theorem xd_L_shellOf : x_cd yL_shellOf 4 := by decide +kernel
theorem xd_L_list : x_cd yL_list 5 := by decide +kernel
theorem xd_L_best : x_cd yL_best 4 := by decide +kernel
theorem xd_L_bestAt : x_cd yL_bestAt 4 := by decide +kernel
theorem xd_L_cut : x_cd yL_cut 3 := by decide +kernel
theorem xd_L_button : x_cd yL_button 4 := by decide +kernel
theorem xd_L_stands : x_cd yL_stands 4 := by decide +kernel
theorem xd_L_work : x_cd yL_work 5 := by decide +kernel
theorem xd_L_works : x_cd yL_works 6 := by decide +kernel
theorem xd_L_grind : x_cd yL_grind 3 := by decide +kernel
theorem xd_L_machine : x_cd yL_machine 4 := by decide +kernel
theorem xd_L_bleach : x_cd yL_bleach 4 := by decide +kernel
theorem xd_L_card : x_cd yL_card 6 := by decide +kernel
theorem xd_L_cardOf : x_cd yL_cardOf 4 := by decide +kernel
theorem xd_L_onCard : x_cd yL_onCard 4 := by decide +kernel
theorem xd_L_send : x_cd yL_send 3 := by decide +kernel
theorem xd_L_sent : x_cd yL_sent 3 := by decide +kernel
theorem xd_L_count : x_cd yL_count 3 := by decide +kernel
theorem xd_L_law : x_cd yL_law 1 := by decide +kernel
/-- L_shellOf -/
def q_L_shellOf (ad : Nat → Nat → Nat) (nS nB nC nO : Nat) (σ : x_St) (a b : Int32) : Int32 → x_St → Prop := fun k u => (k = 0 ∧ ∃ (r : Int32) (σ' : x_St), q_X6_shellOf σ a b r σ' ∧ u = x_up σ' 8 0 0 r) ∨ (k = 1 ∧ (fun E => E = x_nse ∧ ¬ ((0 ≤ a ∧ a < σ 6 0 1) ∧ 0 ≤ b ∧ b ≤ 3)) x_nse ∧ u = σ)
set_option maxHeartbeats 4000000 in
set_option maxRecDepth 100000 in
theorem c_L_shellOf {l : Launch} {D : va_G} {cs : Nat → ClassId} {base : Nat} {ad : Nat → Nat → Nat} {nS nB nC nO : Nat} {σ : x_St} (hl0 : l.stackTraces = false) (a b : Int32) (hS : σ 6 0 1 = nI nS) (hS0 : nS ≤ 30) : x_Wi l yL_shellOf cL_shellOf 5 (some .int) [(0, 10, 13, 13)] 84 2 12 D cs base ad (x_n nS nB nC nO) (x_s nS nB nC nO nS nC) σ [.ref (ad 6 0), .int a, .int b, .ref (ad 8 0)] (q_L_shellOf ad nS nB nC nO σ a b) (fun σ' => x_U D cs base ad (x_n nS nB nC nO) (x_s nS nB nC nO nS nC) σ') := by
  refine va_MetW (cc := cL_shellOf) (maxL := 5) (ret := some .int) (hh := [(0, 10, 13, 13)]) (by decide) rfl ?_
  intro p e s m args below meth c s₁ B hml hv
  obtain ⟨rfl, hU⟩ := hv
  have hx := B.exec
  have hb := B.bytes
  have hr := B.returns
  have hts := atoms_spec (ws := Cond.codeWith yL_shellOf cL_shellOf 5 (some .int) [(0, 10, 13, 13)] :: Tw) B.pre
  have htab := vx_table (x := yL_shellOf) B (hts _ List.mem_cons_self)
  have hown : s.vm.findClass RL = some m.cls := findClass_of_methodNamed B.named
  have hlocks := B.notSynchronized
  have hc : CallFix p m c cL_shellOf 5 s (([.ref (ad 6 0), .int a, .int b, .ref (ad 8 0)] : List Value).toArray) Tw RL := ⟨hx, hb, hml, hown, fun w hw => hts w (List.mem_cons_of_mem _ hw)⟩
  have hw := x_B.start hU
  have hl := lv_entry ([.ref (ad 6 0), .int a, .int b, .ref (ad 8 0)]) (n := 5) (Nat.le_of_ble_eq_true rfl)
  rw [lg_entry_eq]
  generalize (lg_sl ([.ref (ad 6 0), .int a, .int b, .ref (ad 8 0)]) ++ List.replicate (5 - (lg_sl ([.ref (ad 6 0), .int a, .int b, .ref (ad 8 0)])).length) Slot.unset).toArray = ls at hl ⊢
  have hl : lv_has ls 5 [(0, .ref (ad 6 0)), (1, .int a), (2, .int b), (3, .ref (ad 8 0))] := hl
  show W p l e (x_rm 84 2 12) s m ([.ref (ad 6 0), .int a, .int b, .ref (ad 8 0)] : List Value).toArray below meth c s.heap [] 0 0 (MQ below (va_Qi (q_L_shellOf ad nS nB nC nO σ a b) (fun σ' => x_U D cs base ad (x_n nS nB nC nO) (x_s nS nB nC nO nS nC) σ') (x_A base)) ([.ref (ad 6 0), .int a, .int b, .ref (ad 8 0)] : List Value).toArray s 2 12 (x_A base)) (F0 m 0 ls [])
  refine lv_aload_n hx hb dL_shellOf_0 rfl (lv_at hl 3 rfl) ?_
  refine lv_iconst (v := 0) hx hb dL_shellOf_1 (by decide) ?_
  refine lv_aload_n hx hb dL_shellOf_2 rfl (lv_at hl 0 rfl) ?_
  refine lv_iload_n hx hb dL_shellOf_3 rfl (lv_at hl 1 rfl) ?_
  refine lv_iload_n hx hb dL_shellOf_4 rfl (lv_at hl 2 rfl) ?_
  refine xc_Xi hc hw 6 0 (c_X6_shellOf hl0 a b hS hS0) rfl rfl (Nat.zero_lt_one) mw_238 mw_235 mw_1 mw_236 mw_237 xd_X6_shellOf ⟨by decide, by decide⟩ (rfl) hl.1 (Nat.le_of_ble_eq_true rfl) dL_shellOf_5 ⟨Nat.le_of_ble_eq_true rfl, Nat.le_of_ble_eq_true rfl⟩ (fun E ce q9 H locs hp hw hq1 hq2 hq3 => ?_) (fun r_5 σ_5 H locs hq hw => ?_)
  · obtain ⟨rfl, hpx⟩ := hp
    refine xh_1 hc hw htab rfl (by decide)  mw_234 (by decide +kernel) hq1 hq2 hq3 ?_
    refine lv_astore (lv' := [(4, .ref q9), (0, .ref (ad 6 0)), (1, .int a), (2, .int b), (3, .ref (ad 8 0))]) hx hb dL_shellOf_13 hl (by decide) rfl (fun ls hl => ?_)
    refine lv_iconst (v := 1) hx hb dL_shellOf_15 (by decide) ?_
    exact xr_i hc hlocks hr rfl hw (Or.inr ⟨rfl, ⟨rfl, hpx⟩, rfl⟩) (Nat.le_of_ble_eq_true rfl) (Nat.le_of_ble_eq_true rfl) dL_shellOf_16
  have hq_5 := hq
  refine lv_i2l hx hb dL_shellOf_8 rfl ?_
  refine xl_st (j := 0) hc hw (Nat.zero_lt_one) rfl (by decide) dL_shellOf_9 (fun H locs hw => ?_)
  refine lv_goto (tgt := 17) hx hb dL_shellOf_10 (by decide) ?_
  refine lv_iconst (v := 0) hx hb dL_shellOf_17 (by decide) ?_
  exact xr_i hc hlocks hr rfl hw (Or.inl ⟨rfl, r_5, σ_5, hq_5, rfl⟩) (Nat.le_of_ble_eq_true rfl) (Nat.le_of_ble_eq_true rfl) dL_shellOf_18
/-- L_list -/
def q_L_list (ad : Nat → Nat → Nat) (nS nB nC nO : Nat) (σ : x_St) (a b d : Int32) : Int32 → x_St → Prop := fun k u => (k = 0 ∧ ∃ (r : Int32) (σ' : x_St), q_X6_list σ a b d r σ' ∧ u = x_up σ' 8 0 0 r) ∨ (k = 1 ∧ (fun E => E = x_iae ∧ ¬ (1 ≤ a ∧ a ≤ 3 ∧ 1 ≤ b ∧ b ≤ 9 ∧ 0 ≤ d ∧ d ≤ 999)) x_iae ∧ u = σ)
set_option maxHeartbeats 4000000 in
set_option maxRecDepth 100000 in
theorem c_L_list {l : Launch} {D : va_G} {cs : Nat → ClassId} {base : Nat} {ad : Nat → Nat → Nat} {nS nB nC nO : Nat} {σ : x_St} (hl0 : l.stackTraces = false) (a b d : Int32) : x_Wi l yL_list cL_list 6 (some .int) [(0, 12, 15, 19)] 84 1 6 D cs base ad (x_n nS nB nC nO) (x_s nS nB nC nO nS nC) σ [.ref (ad 6 0), .int a, .int b, .int d, .ref (ad 8 0)] (q_L_list ad nS nB nC nO σ a b d) (fun σ' => x_U D cs base ad (x_n nS nB nC nO) (x_s nS nB nC nO nS nC) σ') := by
  refine va_MetW (cc := cL_list) (maxL := 6) (ret := some .int) (hh := [(0, 12, 15, 19)]) (by decide) rfl ?_
  intro p e s m args below meth c s₁ B hml hv
  obtain ⟨rfl, hU⟩ := hv
  have hx := B.exec
  have hb := B.bytes
  have hr := B.returns
  have hts := atoms_spec (ws := Cond.codeWith yL_list cL_list 6 (some .int) [(0, 12, 15, 19)] :: Tw) B.pre
  have htab := vx_table (x := yL_list) B (hts _ List.mem_cons_self)
  have hown : s.vm.findClass RL = some m.cls := findClass_of_methodNamed B.named
  have hlocks := B.notSynchronized
  have hc : CallFix p m c cL_list 6 s (([.ref (ad 6 0), .int a, .int b, .int d, .ref (ad 8 0)] : List Value).toArray) Tw RL := ⟨hx, hb, hml, hown, fun w hw => hts w (List.mem_cons_of_mem _ hw)⟩
  have hw := x_B.start hU
  have hl := lv_entry ([.ref (ad 6 0), .int a, .int b, .int d, .ref (ad 8 0)]) (n := 6) (Nat.le_of_ble_eq_true rfl)
  rw [lg_entry_eq]
  generalize (lg_sl ([.ref (ad 6 0), .int a, .int b, .int d, .ref (ad 8 0)]) ++ List.replicate (6 - (lg_sl ([.ref (ad 6 0), .int a, .int b, .int d, .ref (ad 8 0)])).length) Slot.unset).toArray = ls at hl ⊢
  have hl : lv_has ls 6 [(0, .ref (ad 6 0)), (1, .int a), (2, .int b), (3, .int d), (4, .ref (ad 8 0))] := hl
  show W p l e (x_rm 84 1 6) s m ([.ref (ad 6 0), .int a, .int b, .int d, .ref (ad 8 0)] : List Value).toArray below meth c s.heap [] 0 0 (MQ below (va_Qi (q_L_list ad nS nB nC nO σ a b d) (fun σ' => x_U D cs base ad (x_n nS nB nC nO) (x_s nS nB nC nO nS nC) σ') (x_A base)) ([.ref (ad 6 0), .int a, .int b, .int d, .ref (ad 8 0)] : List Value).toArray s 1 6 (x_A base)) (F0 m 0 ls [])
  refine lv_aload hx hb dL_list_0 (lv_at hl 4 rfl) ?_
  refine lv_iconst (v := 0) hx hb dL_list_2 (by decide) ?_
  refine lv_aload_n hx hb dL_list_3 rfl (lv_at hl 0 rfl) ?_
  refine lv_iload_n hx hb dL_list_4 rfl (lv_at hl 1 rfl) ?_
  refine lv_iload_n hx hb dL_list_5 rfl (lv_at hl 2 rfl) ?_
  refine lv_iload_n hx hb dL_list_6 rfl (lv_at hl 3 rfl) ?_
  refine xc_Xi hc hw 6 0 (c_X6_list hl0 a b d) rfl rfl (Nat.zero_lt_one) mw_318 mw_315 mw_1 mw_316 mw_317 xd_X6_list ⟨by decide, by decide⟩ (rfl) hl.1 (Nat.le_of_ble_eq_true rfl) dL_list_7 ⟨Nat.le_of_ble_eq_true rfl, Nat.le_of_ble_eq_true rfl⟩ (fun E ce q9 H locs hp hw hq1 hq2 hq3 => ?_) (fun r_7 σ_7 H locs hq hw => ?_)
  · obtain ⟨rfl, hpx⟩ := hp
    refine xh_1 hc hw htab rfl (by decide)  mw_314 (by decide +kernel) hq1 hq2 hq3 ?_
    refine lv_astore (lv' := [(5, .ref q9), (0, .ref (ad 6 0)), (1, .int a), (2, .int b), (3, .int d), (4, .ref (ad 8 0))]) hx hb dL_list_15 hl (by decide) rfl (fun ls hl => ?_)
    refine lv_iconst (v := 1) hx hb dL_list_17 (by decide) ?_
    exact xr_i hc hlocks hr rfl hw (Or.inr ⟨rfl, ⟨rfl, hpx⟩, rfl⟩) (Nat.le_of_ble_eq_true rfl) (Nat.le_of_ble_eq_true rfl) dL_list_18
  have hq_7 := hq
  refine lv_i2l hx hb dL_list_10 rfl ?_
  refine xl_st (j := 0) hc hw (Nat.zero_lt_one) rfl (by decide) dL_list_11 (fun H locs hw => ?_)
  refine lv_goto (tgt := 19) hx hb dL_list_12 (by decide) ?_
  refine lv_iconst (v := 0) hx hb dL_list_19 (by decide) ?_
  exact xr_i hc hlocks hr rfl hw (Or.inl ⟨rfl, r_7, σ_7, hq_7, rfl⟩) (Nat.le_of_ble_eq_true rfl) (Nat.le_of_ble_eq_true rfl) dL_list_20
/-- L_best -/
def q_L_best (ad : Nat → Nat → Nat) (nS nB nC nO : Nat) (σ : x_St) (a b : Int32) : Int32 → x_St → Prop := fun k u => (k = 0 ∧ ∃ (r : Int32) (σ' : x_St), q_X6_best σ a b r σ' ∧ u = x_up σ' 8 0 0 r) ∨ (k = 1 ∧ (fun E => E = x_nse ∧ ¬ ((0 ≤ a ∧ a < σ 6 0 1) ∧ 0 ≤ b ∧ b ≤ 1)) x_nse ∧ u = σ)
set_option maxHeartbeats 4000000 in
set_option maxRecDepth 100000 in
theorem c_L_best {l : Launch} {D : va_G} {cs : Nat → ClassId} {base : Nat} {ad : Nat → Nat → Nat} {nS nB nC nO : Nat} {σ : x_St} (hl0 : l.stackTraces = false) (a b : Int32) (hS : σ 6 0 1 = nI nS) (hS0 : nS ≤ 30) (hok : ∀ i, i < nS → f_sk σ i) (hwk : f_wl σ) : x_Wi l yL_best cL_best 5 (some .int) [(0, 10, 13, 13)] 84 2 12 D cs base ad (x_n nS nB nC nO) (x_s nS nB nC nO nS nC) σ [.ref (ad 6 0), .int a, .int b, .ref (ad 8 0)] (q_L_best ad nS nB nC nO σ a b) (fun σ' => x_U D cs base ad (x_n nS nB nC nO) (x_s nS nB nC nO nS nC) σ') := by
  refine va_MetW (cc := cL_best) (maxL := 5) (ret := some .int) (hh := [(0, 10, 13, 13)]) (by decide) rfl ?_
  intro p e s m args below meth c s₁ B hml hv
  obtain ⟨rfl, hU⟩ := hv
  have hx := B.exec
  have hb := B.bytes
  have hr := B.returns
  have hts := atoms_spec (ws := Cond.codeWith yL_best cL_best 5 (some .int) [(0, 10, 13, 13)] :: Tw) B.pre
  have htab := vx_table (x := yL_best) B (hts _ List.mem_cons_self)
  have hown : s.vm.findClass RL = some m.cls := findClass_of_methodNamed B.named
  have hlocks := B.notSynchronized
  have hc : CallFix p m c cL_best 5 s (([.ref (ad 6 0), .int a, .int b, .ref (ad 8 0)] : List Value).toArray) Tw RL := ⟨hx, hb, hml, hown, fun w hw => hts w (List.mem_cons_of_mem _ hw)⟩
  have hw := x_B.start hU
  have hl := lv_entry ([.ref (ad 6 0), .int a, .int b, .ref (ad 8 0)]) (n := 5) (Nat.le_of_ble_eq_true rfl)
  rw [lg_entry_eq]
  generalize (lg_sl ([.ref (ad 6 0), .int a, .int b, .ref (ad 8 0)]) ++ List.replicate (5 - (lg_sl ([.ref (ad 6 0), .int a, .int b, .ref (ad 8 0)])).length) Slot.unset).toArray = ls at hl ⊢
  have hl : lv_has ls 5 [(0, .ref (ad 6 0)), (1, .int a), (2, .int b), (3, .ref (ad 8 0))] := hl
  show W p l e (x_rm 84 2 12) s m ([.ref (ad 6 0), .int a, .int b, .ref (ad 8 0)] : List Value).toArray below meth c s.heap [] 0 0 (MQ below (va_Qi (q_L_best ad nS nB nC nO σ a b) (fun σ' => x_U D cs base ad (x_n nS nB nC nO) (x_s nS nB nC nO nS nC) σ') (x_A base)) ([.ref (ad 6 0), .int a, .int b, .ref (ad 8 0)] : List Value).toArray s 2 12 (x_A base)) (F0 m 0 ls [])
  refine lv_aload_n hx hb dL_best_0 rfl (lv_at hl 3 rfl) ?_
  refine lv_iconst (v := 0) hx hb dL_best_1 (by decide) ?_
  refine lv_aload_n hx hb dL_best_2 rfl (lv_at hl 0 rfl) ?_
  refine lv_iload_n hx hb dL_best_3 rfl (lv_at hl 1 rfl) ?_
  refine lv_iload_n hx hb dL_best_4 rfl (lv_at hl 2 rfl) ?_
  refine xc_Xi hc hw 6 0 (c_X6_best hl0 a b hS hS0 hok hwk) rfl rfl (Nat.zero_lt_one) mw_345 mw_342 mw_1 mw_343 mw_344 xd_X6_best ⟨by decide, by decide⟩ (rfl) hl.1 (Nat.le_of_ble_eq_true rfl) dL_best_5 ⟨Nat.le_of_ble_eq_true rfl, Nat.le_of_ble_eq_true rfl⟩ (fun E ce q9 H locs hp hw hq1 hq2 hq3 => ?_) (fun r_5 σ_5 H locs hq hw => ?_)
  · obtain ⟨rfl, hpx⟩ := hp
    refine xh_1 hc hw htab rfl (by decide)  mw_234 (by decide +kernel) hq1 hq2 hq3 ?_
    refine lv_astore (lv' := [(4, .ref q9), (0, .ref (ad 6 0)), (1, .int a), (2, .int b), (3, .ref (ad 8 0))]) hx hb dL_best_13 hl (by decide) rfl (fun ls hl => ?_)
    refine lv_iconst (v := 1) hx hb dL_best_15 (by decide) ?_
    exact xr_i hc hlocks hr rfl hw (Or.inr ⟨rfl, ⟨rfl, hpx⟩, rfl⟩) (Nat.le_of_ble_eq_true rfl) (Nat.le_of_ble_eq_true rfl) dL_best_16
  have hq_5 := hq
  refine lv_i2l hx hb dL_best_8 rfl ?_
  refine xl_st (j := 0) hc hw (Nat.zero_lt_one) rfl (by decide) dL_best_9 (fun H locs hw => ?_)
  refine lv_goto (tgt := 17) hx hb dL_best_10 (by decide) ?_
  refine lv_iconst (v := 0) hx hb dL_best_17 (by decide) ?_
  exact xr_i hc hlocks hr rfl hw (Or.inl ⟨rfl, r_5, σ_5, hq_5, rfl⟩) (Nat.le_of_ble_eq_true rfl) (Nat.le_of_ble_eq_true rfl) dL_best_18
/-- L_bestAt -/
def q_L_bestAt (ad : Nat → Nat → Nat) (nS nB nC nO : Nat) (σ : x_St) (a b : Int32) : Int32 → x_St → Prop := fun k u => (k = 0 ∧ ∃ (r : Int32) (σ' : x_St), q_X6_bestAt σ a b r σ' ∧ u = x_up σ' 8 0 0 r) ∨ (k = 1 ∧ (fun E => E = x_nse ∧ ¬ ((0 ≤ a ∧ a < σ 6 0 1) ∧ 0 ≤ b ∧ b < σ 5 (x_c a) 0 * σ 5 (x_c a) 1)) x_nse ∧ u = σ)
set_option maxHeartbeats 4000000 in
set_option maxRecDepth 100000 in
theorem c_L_bestAt {l : Launch} {D : va_G} {cs : Nat → ClassId} {base : Nat} {ad : Nat → Nat → Nat} {nS nB nC nO : Nat} {σ : x_St} (hl0 : l.stackTraces = false) (a b : Int32) (hS : σ 6 0 1 = nI nS) (hS0 : nS ≤ 30) (hok : ∀ i, i < nS → f_sk σ i) (hwk : f_wl σ) : x_Wi l yL_bestAt cL_bestAt 5 (some .int) [(0, 10, 13, 13)] 84 2 12 D cs base ad (x_n nS nB nC nO) (x_s nS nB nC nO nS nC) σ [.ref (ad 6 0), .int a, .int b, .ref (ad 8 0)] (q_L_bestAt ad nS nB nC nO σ a b) (fun σ' => x_U D cs base ad (x_n nS nB nC nO) (x_s nS nB nC nO nS nC) σ') := by
  refine va_MetW (cc := cL_bestAt) (maxL := 5) (ret := some .int) (hh := [(0, 10, 13, 13)]) (by decide) rfl ?_
  intro p e s m args below meth c s₁ B hml hv
  obtain ⟨rfl, hU⟩ := hv
  have hx := B.exec
  have hb := B.bytes
  have hr := B.returns
  have hts := atoms_spec (ws := Cond.codeWith yL_bestAt cL_bestAt 5 (some .int) [(0, 10, 13, 13)] :: Tw) B.pre
  have htab := vx_table (x := yL_bestAt) B (hts _ List.mem_cons_self)
  have hown : s.vm.findClass RL = some m.cls := findClass_of_methodNamed B.named
  have hlocks := B.notSynchronized
  have hc : CallFix p m c cL_bestAt 5 s (([.ref (ad 6 0), .int a, .int b, .ref (ad 8 0)] : List Value).toArray) Tw RL := ⟨hx, hb, hml, hown, fun w hw => hts w (List.mem_cons_of_mem _ hw)⟩
  have hw := x_B.start hU
  have hl := lv_entry ([.ref (ad 6 0), .int a, .int b, .ref (ad 8 0)]) (n := 5) (Nat.le_of_ble_eq_true rfl)
  rw [lg_entry_eq]
  generalize (lg_sl ([.ref (ad 6 0), .int a, .int b, .ref (ad 8 0)]) ++ List.replicate (5 - (lg_sl ([.ref (ad 6 0), .int a, .int b, .ref (ad 8 0)])).length) Slot.unset).toArray = ls at hl ⊢
  have hl : lv_has ls 5 [(0, .ref (ad 6 0)), (1, .int a), (2, .int b), (3, .ref (ad 8 0))] := hl
  show W p l e (x_rm 84 2 12) s m ([.ref (ad 6 0), .int a, .int b, .ref (ad 8 0)] : List Value).toArray below meth c s.heap [] 0 0 (MQ below (va_Qi (q_L_bestAt ad nS nB nC nO σ a b) (fun σ' => x_U D cs base ad (x_n nS nB nC nO) (x_s nS nB nC nO nS nC) σ') (x_A base)) ([.ref (ad 6 0), .int a, .int b, .ref (ad 8 0)] : List Value).toArray s 2 12 (x_A base)) (F0 m 0 ls [])
  refine lv_aload_n hx hb dL_bestAt_0 rfl (lv_at hl 3 rfl) ?_
  refine lv_iconst (v := 0) hx hb dL_bestAt_1 (by decide) ?_
  refine lv_aload_n hx hb dL_bestAt_2 rfl (lv_at hl 0 rfl) ?_
  refine lv_iload_n hx hb dL_bestAt_3 rfl (lv_at hl 1 rfl) ?_
  refine lv_iload_n hx hb dL_bestAt_4 rfl (lv_at hl 2 rfl) ?_
  refine xc_Xi hc hw 6 0 (c_X6_bestAt hl0 a b hS hS0 hok hwk) rfl rfl (Nat.zero_lt_one) mw_405 mw_402 mw_1 mw_403 mw_404 xd_X6_bestAt ⟨by decide, by decide⟩ (rfl) hl.1 (Nat.le_of_ble_eq_true rfl) dL_bestAt_5 ⟨Nat.le_of_ble_eq_true rfl, Nat.le_of_ble_eq_true rfl⟩ (fun E ce q9 H locs hp hw hq1 hq2 hq3 => ?_) (fun r_5 σ_5 H locs hq hw => ?_)
  · obtain ⟨rfl, hpx⟩ := hp
    refine xh_1 hc hw htab rfl (by decide)  mw_234 (by decide +kernel) hq1 hq2 hq3 ?_
    refine lv_astore (lv' := [(4, .ref q9), (0, .ref (ad 6 0)), (1, .int a), (2, .int b), (3, .ref (ad 8 0))]) hx hb dL_bestAt_13 hl (by decide) rfl (fun ls hl => ?_)
    refine lv_iconst (v := 1) hx hb dL_bestAt_15 (by decide) ?_
    exact xr_i hc hlocks hr rfl hw (Or.inr ⟨rfl, ⟨rfl, hpx⟩, rfl⟩) (Nat.le_of_ble_eq_true rfl) (Nat.le_of_ble_eq_true rfl) dL_bestAt_16
  have hq_5 := hq
  refine lv_i2l hx hb dL_bestAt_8 rfl ?_
  refine xl_st (j := 0) hc hw (Nat.zero_lt_one) rfl (by decide) dL_bestAt_9 (fun H locs hw => ?_)
  refine lv_goto (tgt := 17) hx hb dL_bestAt_10 (by decide) ?_
  refine lv_iconst (v := 0) hx hb dL_bestAt_17 (by decide) ?_
  exact xr_i hc hlocks hr rfl hw (Or.inl ⟨rfl, r_5, σ_5, hq_5, rfl⟩) (Nat.le_of_ble_eq_true rfl) (Nat.le_of_ble_eq_true rfl) dL_bestAt_18
/-- L_button -/
def q_L_button (ad : Nat → Nat → Nat) (nS nB nC nO : Nat) (σ : x_St) (a b : Int32) : Int32 → x_St → Prop := fun k u => (k = 0 ∧ ∃ (r : Int32) (σ' : x_St), q_X6_button σ a b r σ' ∧ u = x_up σ' 8 0 0 r) ∨ (k = 1 ∧ (fun E => E = x_nse ∧ ¬ ((0 ≤ a ∧ a < σ 6 0 3) ∧ 0 ≤ b ∧ b ≤ 8)) x_nse ∧ u = σ)
set_option maxHeartbeats 4000000 in
set_option maxRecDepth 100000 in
theorem c_L_button {l : Launch} {D : va_G} {cs : Nat → ClassId} {base : Nat} {ad : Nat → Nat → Nat} {nS nB nC nO : Nat} {σ : x_St} (hl0 : l.stackTraces = false) (a b : Int32) (hB : σ 6 0 3 = nI nB) (hB0 : nB ≤ 400) : x_Wi l yL_button cL_button 5 (some .int) [(0, 10, 13, 13)] 84 2 12 D cs base ad (x_n nS nB nC nO) (x_s nS nB nC nO nS nC) σ [.ref (ad 6 0), .int a, .int b, .ref (ad 8 0)] (q_L_button ad nS nB nC nO σ a b) (fun σ' => x_U D cs base ad (x_n nS nB nC nO) (x_s nS nB nC nO nS nC) σ') := by
  refine va_MetW (cc := cL_button) (maxL := 5) (ret := some .int) (hh := [(0, 10, 13, 13)]) (by decide) rfl ?_
  intro p e s m args below meth c s₁ B hml hv
  obtain ⟨rfl, hU⟩ := hv
  have hx := B.exec
  have hb := B.bytes
  have hr := B.returns
  have hts := atoms_spec (ws := Cond.codeWith yL_button cL_button 5 (some .int) [(0, 10, 13, 13)] :: Tw) B.pre
  have htab := vx_table (x := yL_button) B (hts _ List.mem_cons_self)
  have hown : s.vm.findClass RL = some m.cls := findClass_of_methodNamed B.named
  have hlocks := B.notSynchronized
  have hc : CallFix p m c cL_button 5 s (([.ref (ad 6 0), .int a, .int b, .ref (ad 8 0)] : List Value).toArray) Tw RL := ⟨hx, hb, hml, hown, fun w hw => hts w (List.mem_cons_of_mem _ hw)⟩
  have hw := x_B.start hU
  have hl := lv_entry ([.ref (ad 6 0), .int a, .int b, .ref (ad 8 0)]) (n := 5) (Nat.le_of_ble_eq_true rfl)
  rw [lg_entry_eq]
  generalize (lg_sl ([.ref (ad 6 0), .int a, .int b, .ref (ad 8 0)]) ++ List.replicate (5 - (lg_sl ([.ref (ad 6 0), .int a, .int b, .ref (ad 8 0)])).length) Slot.unset).toArray = ls at hl ⊢
  have hl : lv_has ls 5 [(0, .ref (ad 6 0)), (1, .int a), (2, .int b), (3, .ref (ad 8 0))] := hl
  show W p l e (x_rm 84 2 12) s m ([.ref (ad 6 0), .int a, .int b, .ref (ad 8 0)] : List Value).toArray below meth c s.heap [] 0 0 (MQ below (va_Qi (q_L_button ad nS nB nC nO σ a b) (fun σ' => x_U D cs base ad (x_n nS nB nC nO) (x_s nS nB nC nO nS nC) σ') (x_A base)) ([.ref (ad 6 0), .int a, .int b, .ref (ad 8 0)] : List Value).toArray s 2 12 (x_A base)) (F0 m 0 ls [])
  refine lv_aload_n hx hb dL_button_0 rfl (lv_at hl 3 rfl) ?_
  refine lv_iconst (v := 0) hx hb dL_button_1 (by decide) ?_
  refine lv_aload_n hx hb dL_button_2 rfl (lv_at hl 0 rfl) ?_
  refine lv_iload_n hx hb dL_button_3 rfl (lv_at hl 1 rfl) ?_
  refine lv_iload_n hx hb dL_button_4 rfl (lv_at hl 2 rfl) ?_
  refine xc_Xi hc hw 6 0 (c_X6_button hl0 a b hB hB0) rfl rfl (Nat.zero_lt_one) mw_466 mw_463 mw_1 mw_464 mw_465 xd_X6_button ⟨by decide, by decide⟩ (rfl) hl.1 (Nat.le_of_ble_eq_true rfl) dL_button_5 ⟨Nat.le_of_ble_eq_true rfl, Nat.le_of_ble_eq_true rfl⟩ (fun E ce q9 H locs hp hw hq1 hq2 hq3 => ?_) (fun r_5 σ_5 H locs hq hw => ?_)
  · obtain ⟨rfl, hpx⟩ := hp
    refine xh_1 hc hw htab rfl (by decide)  mw_234 (by decide +kernel) hq1 hq2 hq3 ?_
    refine lv_astore (lv' := [(4, .ref q9), (0, .ref (ad 6 0)), (1, .int a), (2, .int b), (3, .ref (ad 8 0))]) hx hb dL_button_13 hl (by decide) rfl (fun ls hl => ?_)
    refine lv_iconst (v := 1) hx hb dL_button_15 (by decide) ?_
    exact xr_i hc hlocks hr rfl hw (Or.inr ⟨rfl, ⟨rfl, hpx⟩, rfl⟩) (Nat.le_of_ble_eq_true rfl) (Nat.le_of_ble_eq_true rfl) dL_button_16
  have hq_5 := hq
  refine lv_i2l hx hb dL_button_8 rfl ?_
  refine xl_st (j := 0) hc hw (Nat.zero_lt_one) rfl (by decide) dL_button_9 (fun H locs hw => ?_)
  refine lv_goto (tgt := 17) hx hb dL_button_10 (by decide) ?_
  refine lv_iconst (v := 0) hx hb dL_button_17 (by decide) ?_
  exact xr_i hc hlocks hr rfl hw (Or.inl ⟨rfl, r_5, σ_5, hq_5, rfl⟩) (Nat.le_of_ble_eq_true rfl) (Nat.le_of_ble_eq_true rfl) dL_button_18
/-- L_stands -/
def q_L_stands (ad : Nat → Nat → Nat) (nS nB nC nO : Nat) (σ : x_St) (a b : Int32) : Int32 → x_St → Prop := fun k u => (k = 0 ∧ ∃ (r : Int32) (σ' : x_St), q_X6_stands σ a b r σ' ∧ u = x_up σ' 8 0 0 r) ∨ (k = 1 ∧ (fun E => (E = x_nse ∧ ¬ (0 ≤ a ∧ a ≤ 5)) ∨ (E = x_iae ∧ (0 ≤ a ∧ a ≤ 5) ∧ ¬ (1 ≤ b ∧ b ≤ 10000))) x_nse ∧ u = σ) ∨ (k = 2 ∧ (fun E => (E = x_nse ∧ ¬ (0 ≤ a ∧ a ≤ 5)) ∨ (E = x_iae ∧ (0 ≤ a ∧ a ≤ 5) ∧ ¬ (1 ≤ b ∧ b ≤ 10000))) x_iae ∧ u = σ)
set_option maxHeartbeats 4000000 in
set_option maxRecDepth 100000 in
theorem c_L_stands {l : Launch} {D : va_G} {cs : Nat → ClassId} {base : Nat} {ad : Nat → Nat → Nat} {nS nB nC nO : Nat} {σ : x_St} (hl0 : l.stackTraces = false) (a b : Int32)  : x_Wi l yL_stands cL_stands 5 (some .int) [(0, 10, 13, 13), (0, 10, 17, 19)] 84 2 12 D cs base ad (x_n nS nB nC nO) (x_s nS nB nC nO nS nC) σ [.ref (ad 6 0), .int a, .int b, .ref (ad 8 0)] (q_L_stands ad nS nB nC nO σ a b) (fun σ' => x_U D cs base ad (x_n nS nB nC nO) (x_s nS nB nC nO nS nC) σ') := by
  refine va_MetW (cc := cL_stands) (maxL := 5) (ret := some .int) (hh := [(0, 10, 13, 13), (0, 10, 17, 19)]) (by decide) rfl ?_
  intro p e s m args below meth c s₁ B hml hv
  obtain ⟨rfl, hU⟩ := hv
  have hx := B.exec
  have hb := B.bytes
  have hr := B.returns
  have hts := atoms_spec (ws := Cond.codeWith yL_stands cL_stands 5 (some .int) [(0, 10, 13, 13), (0, 10, 17, 19)] :: Tw) B.pre
  have htab := vx_table (x := yL_stands) B (hts _ List.mem_cons_self)
  have hown : s.vm.findClass RL = some m.cls := findClass_of_methodNamed B.named
  have hlocks := B.notSynchronized
  have hc : CallFix p m c cL_stands 5 s (([.ref (ad 6 0), .int a, .int b, .ref (ad 8 0)] : List Value).toArray) Tw RL := ⟨hx, hb, hml, hown, fun w hw => hts w (List.mem_cons_of_mem _ hw)⟩
  have hw := x_B.start hU
  have hl := lv_entry ([.ref (ad 6 0), .int a, .int b, .ref (ad 8 0)]) (n := 5) (Nat.le_of_ble_eq_true rfl)
  rw [lg_entry_eq]
  generalize (lg_sl ([.ref (ad 6 0), .int a, .int b, .ref (ad 8 0)]) ++ List.replicate (5 - (lg_sl ([.ref (ad 6 0), .int a, .int b, .ref (ad 8 0)])).length) Slot.unset).toArray = ls at hl ⊢
  have hl : lv_has ls 5 [(0, .ref (ad 6 0)), (1, .int a), (2, .int b), (3, .ref (ad 8 0))] := hl
  show W p l e (x_rm 84 2 12) s m ([.ref (ad 6 0), .int a, .int b, .ref (ad 8 0)] : List Value).toArray below meth c s.heap [] 0 0 (MQ below (va_Qi (q_L_stands ad nS nB nC nO σ a b) (fun σ' => x_U D cs base ad (x_n nS nB nC nO) (x_s nS nB nC nO nS nC) σ') (x_A base)) ([.ref (ad 6 0), .int a, .int b, .ref (ad 8 0)] : List Value).toArray s 2 12 (x_A base)) (F0 m 0 ls [])
  refine lv_aload_n hx hb dL_stands_0 rfl (lv_at hl 3 rfl) ?_
  refine lv_iconst (v := 0) hx hb dL_stands_1 (by decide) ?_
  refine lv_aload_n hx hb dL_stands_2 rfl (lv_at hl 0 rfl) ?_
  refine lv_iload_n hx hb dL_stands_3 rfl (lv_at hl 1 rfl) ?_
  refine lv_iload_n hx hb dL_stands_4 rfl (lv_at hl 2 rfl) ?_
  refine xc_Xi hc hw 6 0 (c_X6_stands hl0 a b) rfl rfl (Nat.zero_lt_one) mw_479 mw_476 mw_1 mw_477 mw_478 xd_X6_stands ⟨by decide, by decide⟩ (rfl) hl.1 (Nat.le_of_ble_eq_true rfl) dL_stands_5 ⟨Nat.le_of_ble_eq_true rfl, Nat.le_of_ble_eq_true rfl⟩ (fun E ce q9 H locs hp hw hq1 hq2 hq3 => ?_) (fun r_5 σ_5 H locs hq hw => ?_)
  · rcases hp with ⟨rfl, hpx⟩ | ⟨rfl, hpx⟩
    · refine xh_1 hc hw htab rfl (by decide)  mw_234 (by decide +kernel) hq1 hq2 hq3 ?_
      refine lv_astore (lv' := [(4, .ref q9), (0, .ref (ad 6 0)), (1, .int a), (2, .int b), (3, .ref (ad 8 0))]) hx hb dL_stands_13 hl (by decide) rfl (fun ls hl => ?_)
      refine lv_iconst (v := 1) hx hb dL_stands_15 (by decide) ?_
      exact xr_i hc hlocks hr rfl hw (Or.inr (Or.inl ⟨rfl, Or.inl ⟨rfl, hpx⟩, rfl⟩)) (Nat.le_of_ble_eq_true rfl) (Nat.le_of_ble_eq_true rfl) dL_stands_16
    · refine xh_2 hc hw htab rfl (by decide) (by decide) mw_314 mw_234 (by decide +kernel) hq1 hq2 hq3 ?_
      refine lv_astore (lv' := [(4, .ref q9), (0, .ref (ad 6 0)), (1, .int a), (2, .int b), (3, .ref (ad 8 0))]) hx hb dL_stands_17 hl (by decide) rfl (fun ls hl => ?_)
      refine lv_iconst (v := 2) hx hb dL_stands_19 (by decide) ?_
      exact xr_i hc hlocks hr rfl hw (Or.inr (Or.inr ⟨rfl, Or.inr ⟨rfl, hpx⟩, rfl⟩)) (Nat.le_of_ble_eq_true rfl) (Nat.le_of_ble_eq_true rfl) dL_stands_20
  have hq_5 := hq
  refine lv_i2l hx hb dL_stands_8 rfl ?_
  refine xl_st (j := 0) hc hw (Nat.zero_lt_one) rfl (by decide) dL_stands_9 (fun H locs hw => ?_)
  refine lv_goto (tgt := 21) hx hb dL_stands_10 (by decide) ?_
  refine lv_iconst (v := 0) hx hb dL_stands_21 (by decide) ?_
  exact xr_i hc hlocks hr rfl hw (Or.inl ⟨rfl, r_5, σ_5, hq_5, rfl⟩) (Nat.le_of_ble_eq_true rfl) (Nat.le_of_ble_eq_true rfl) dL_stands_22
/-- L_work -/
def q_L_work (ad : Nat → Nat → Nat) (nS nB nC nO : Nat) (σ : x_St) (a b h : Int32) : Int32 → x_St → Prop := fun k u => (k = 0 ∧ ∃ (r : Int32) (σ' : x_St), q_X6_work σ a b h r σ' ∧ u = x_up σ' 8 0 0 r) ∨ (k = 1 ∧ (fun E => E = x_nse ∧ ¬ ((0 ≤ a ∧ a ≤ 5) ∧ (0 ≤ b ∧ b < σ 6 0 3))) x_nse ∧ u = σ)
set_option maxHeartbeats 4000000 in
set_option maxRecDepth 100000 in
theorem c_L_work {l : Launch} {D : va_G} {cs : Nat → ClassId} {base : Nat} {ad : Nat → Nat → Nat} {nS nB nC nO : Nat} {σ : x_St} (hl0 : l.stackTraces = false) (a b h : Int32) (hB : σ 6 0 3 = nI nB) (hB0 : nB ≤ 400) : x_Wi l yL_work cL_work 6 (some .int) [(0, 12, 15, 13)] 84 2 12 D cs base ad (x_n nS nB nC nO) (x_s nS nB nC nO nS nC) σ [.ref (ad 6 0), .int a, .int b, .int h, .ref (ad 8 0)] (q_L_work ad nS nB nC nO σ a b h) (fun σ' => x_U D cs base ad (x_n nS nB nC nO) (x_s nS nB nC nO nS nC) σ') := by
  refine va_MetW (cc := cL_work) (maxL := 6) (ret := some .int) (hh := [(0, 12, 15, 13)]) (by decide) rfl ?_
  intro p e s m args below meth c s₁ B hml hv
  obtain ⟨rfl, hU⟩ := hv
  have hx := B.exec
  have hb := B.bytes
  have hr := B.returns
  have hts := atoms_spec (ws := Cond.codeWith yL_work cL_work 6 (some .int) [(0, 12, 15, 13)] :: Tw) B.pre
  have htab := vx_table (x := yL_work) B (hts _ List.mem_cons_self)
  have hown : s.vm.findClass RL = some m.cls := findClass_of_methodNamed B.named
  have hlocks := B.notSynchronized
  have hc : CallFix p m c cL_work 6 s (([.ref (ad 6 0), .int a, .int b, .int h, .ref (ad 8 0)] : List Value).toArray) Tw RL := ⟨hx, hb, hml, hown, fun w hw => hts w (List.mem_cons_of_mem _ hw)⟩
  have hw := x_B.start hU
  have hl := lv_entry ([.ref (ad 6 0), .int a, .int b, .int h, .ref (ad 8 0)]) (n := 6) (Nat.le_of_ble_eq_true rfl)
  rw [lg_entry_eq]
  generalize (lg_sl ([.ref (ad 6 0), .int a, .int b, .int h, .ref (ad 8 0)]) ++ List.replicate (6 - (lg_sl ([.ref (ad 6 0), .int a, .int b, .int h, .ref (ad 8 0)])).length) Slot.unset).toArray = ls at hl ⊢
  have hl : lv_has ls 6 [(0, .ref (ad 6 0)), (1, .int a), (2, .int b), (3, .int h), (4, .ref (ad 8 0))] := hl
  show W p l e (x_rm 84 2 12) s m ([.ref (ad 6 0), .int a, .int b, .int h, .ref (ad 8 0)] : List Value).toArray below meth c s.heap [] 0 0 (MQ below (va_Qi (q_L_work ad nS nB nC nO σ a b h) (fun σ' => x_U D cs base ad (x_n nS nB nC nO) (x_s nS nB nC nO nS nC) σ') (x_A base)) ([.ref (ad 6 0), .int a, .int b, .int h, .ref (ad 8 0)] : List Value).toArray s 2 12 (x_A base)) (F0 m 0 ls [])
  refine lv_aload hx hb dL_work_0 (lv_at hl 4 rfl) ?_
  refine lv_iconst (v := 0) hx hb dL_work_2 (by decide) ?_
  refine lv_aload_n hx hb dL_work_3 rfl (lv_at hl 0 rfl) ?_
  refine lv_iload_n hx hb dL_work_4 rfl (lv_at hl 1 rfl) ?_
  refine lv_iload_n hx hb dL_work_5 rfl (lv_at hl 2 rfl) ?_
  refine lv_iload_n hx hb dL_work_6 rfl (lv_at hl 3 rfl) ?_
  refine xc_Xi hc hw 6 0 (c_X6_work hl0 a b h hB hB0) rfl rfl (Nat.zero_lt_one) mw_492 mw_489 mw_1 mw_490 mw_491 xd_X6_work ⟨by decide, by decide⟩ (rfl) hl.1 (Nat.le_of_ble_eq_true rfl) dL_work_7 ⟨Nat.le_of_ble_eq_true rfl, Nat.le_of_ble_eq_true rfl⟩ (fun E ce q9 H locs hp hw hq1 hq2 hq3 => ?_) (fun r_7 σ_7 H locs hq hw => ?_)
  · obtain ⟨rfl, hpx⟩ := hp
    refine xh_1 hc hw htab rfl (by decide)  mw_234 (by decide +kernel) hq1 hq2 hq3 ?_
    refine lv_astore (lv' := [(5, .ref q9), (0, .ref (ad 6 0)), (1, .int a), (2, .int b), (3, .int h), (4, .ref (ad 8 0))]) hx hb dL_work_15 hl (by decide) rfl (fun ls hl => ?_)
    refine lv_iconst (v := 1) hx hb dL_work_17 (by decide) ?_
    exact xr_i hc hlocks hr rfl hw (Or.inr ⟨rfl, ⟨rfl, hpx⟩, rfl⟩) (Nat.le_of_ble_eq_true rfl) (Nat.le_of_ble_eq_true rfl) dL_work_18
  have hq_7 := hq
  refine lv_i2l hx hb dL_work_10 rfl ?_
  refine xl_st (j := 0) hc hw (Nat.zero_lt_one) rfl (by decide) dL_work_11 (fun H locs hw => ?_)
  refine lv_goto (tgt := 19) hx hb dL_work_12 (by decide) ?_
  refine lv_iconst (v := 0) hx hb dL_work_19 (by decide) ?_
  exact xr_i hc hlocks hr rfl hw (Or.inl ⟨rfl, r_7, σ_7, hq_7, rfl⟩) (Nat.le_of_ble_eq_true rfl) (Nat.le_of_ble_eq_true rfl) dL_work_20
/-- L_works -/
def q_L_works (ad : Nat → Nat → Nat) (nS nB nC nO : Nat) (σ : x_St) (a b d f : Int32) : Int32 → x_St → Prop := fun k u => (k = 0 ∧ ∃ (r : Int32) (σ' : x_St), q_X6_works σ a b d f nB r σ' ∧ u = x_up σ' 8 0 0 r) ∨ (k = 1 ∧ (fun E => (E = x_nse ∧ ¬ (0 ≤ a ∧ a ≤ 5)) ∨ (E = x_iae ∧ (0 ≤ a ∧ a ≤ 5) ∧ ¬ (0 ≤ b ∧ b ≤ d))) x_nse ∧ u = σ) ∨ (k = 2 ∧ (fun E => (E = x_nse ∧ ¬ (0 ≤ a ∧ a ≤ 5)) ∨ (E = x_iae ∧ (0 ≤ a ∧ a ≤ 5) ∧ ¬ (0 ≤ b ∧ b ≤ d))) x_iae ∧ u = σ)
set_option maxHeartbeats 4000000 in
set_option maxRecDepth 100000 in
theorem c_L_works {l : Launch} {D : va_G} {cs : Nat → ClassId} {base : Nat} {ad : Nat → Nat → Nat} {nS nB nC nO : Nat} {σ : x_St} (hl0 : l.stackTraces = false) (a b d f : Int32) (hB : σ 6 0 3 = nI nB) (hB0 : nB ≤ 400) : x_Wi l yL_works cL_works 7 (some .int) [(0, 14, 17, 13), (0, 14, 21, 19)] 84 2 12 D cs base ad (x_n nS nB nC nO) (x_s nS nB nC nO nS nC) σ [.ref (ad 6 0), .int a, .int b, .int d, .int f, .ref (ad 8 0)] (q_L_works ad nS nB nC nO σ a b d f) (fun σ' => x_U D cs base ad (x_n nS nB nC nO) (x_s nS nB nC nO nS nC) σ') := by
  refine va_MetW (cc := cL_works) (maxL := 7) (ret := some .int) (hh := [(0, 14, 17, 13), (0, 14, 21, 19)]) (by decide) rfl ?_
  intro p e s m args below meth c s₁ B hml hv
  obtain ⟨rfl, hU⟩ := hv
  have hx := B.exec
  have hb := B.bytes
  have hr := B.returns
  have hts := atoms_spec (ws := Cond.codeWith yL_works cL_works 7 (some .int) [(0, 14, 17, 13), (0, 14, 21, 19)] :: Tw) B.pre
  have htab := vx_table (x := yL_works) B (hts _ List.mem_cons_self)
  have hown : s.vm.findClass RL = some m.cls := findClass_of_methodNamed B.named
  have hlocks := B.notSynchronized
  have hc : CallFix p m c cL_works 7 s (([.ref (ad 6 0), .int a, .int b, .int d, .int f, .ref (ad 8 0)] : List Value).toArray) Tw RL := ⟨hx, hb, hml, hown, fun w hw => hts w (List.mem_cons_of_mem _ hw)⟩
  have hw := x_B.start hU
  have hl := lv_entry ([.ref (ad 6 0), .int a, .int b, .int d, .int f, .ref (ad 8 0)]) (n := 7) (Nat.le_of_ble_eq_true rfl)
  rw [lg_entry_eq]
  generalize (lg_sl ([.ref (ad 6 0), .int a, .int b, .int d, .int f, .ref (ad 8 0)]) ++ List.replicate (7 - (lg_sl ([.ref (ad 6 0), .int a, .int b, .int d, .int f, .ref (ad 8 0)])).length) Slot.unset).toArray = ls at hl ⊢
  have hl : lv_has ls 7 [(0, .ref (ad 6 0)), (1, .int a), (2, .int b), (3, .int d), (4, .int f), (5, .ref (ad 8 0))] := hl
  show W p l e (x_rm 84 2 12) s m ([.ref (ad 6 0), .int a, .int b, .int d, .int f, .ref (ad 8 0)] : List Value).toArray below meth c s.heap [] 0 0 (MQ below (va_Qi (q_L_works ad nS nB nC nO σ a b d f) (fun σ' => x_U D cs base ad (x_n nS nB nC nO) (x_s nS nB nC nO nS nC) σ') (x_A base)) ([.ref (ad 6 0), .int a, .int b, .int d, .int f, .ref (ad 8 0)] : List Value).toArray s 2 12 (x_A base)) (F0 m 0 ls [])
  refine lv_aload hx hb dL_works_0 (lv_at hl 5 rfl) ?_
  refine lv_iconst (v := 0) hx hb dL_works_2 (by decide) ?_
  refine lv_aload_n hx hb dL_works_3 rfl (lv_at hl 0 rfl) ?_
  refine lv_iload_n hx hb dL_works_4 rfl (lv_at hl 1 rfl) ?_
  refine lv_iload_n hx hb dL_works_5 rfl (lv_at hl 2 rfl) ?_
  refine lv_iload_n hx hb dL_works_6 rfl (lv_at hl 3 rfl) ?_
  refine lv_iload hx hb dL_works_7 (lv_at hl 4 rfl) ?_
  refine xc_Xi hc hw 6 0 (c_X6_works hl0 a b d f hB hB0) rfl rfl (Nat.zero_lt_one) mw_515 mw_512 mw_1 mw_513 mw_514 xd_X6_works ⟨by decide, by decide⟩ (rfl) hl.1 (Nat.le_of_ble_eq_true rfl) dL_works_9 ⟨Nat.le_of_ble_eq_true rfl, Nat.le_of_ble_eq_true rfl⟩ (fun E ce q9 H locs hp hw hq1 hq2 hq3 => ?_) (fun r_9 σ_9 H locs hq hw => ?_)
  · rcases hp with ⟨rfl, hpx⟩ | ⟨rfl, hpx⟩
    · refine xh_1 hc hw htab rfl (by decide)  mw_234 (by decide +kernel) hq1 hq2 hq3 ?_
      refine lv_astore (lv' := [(6, .ref q9), (0, .ref (ad 6 0)), (1, .int a), (2, .int b), (3, .int d), (4, .int f), (5, .ref (ad 8 0))]) hx hb dL_works_17 hl (by decide) rfl (fun ls hl => ?_)
      refine lv_iconst (v := 1) hx hb dL_works_19 (by decide) ?_
      exact xr_i hc hlocks hr rfl hw (Or.inr (Or.inl ⟨rfl, Or.inl ⟨rfl, hpx⟩, rfl⟩)) (Nat.le_of_ble_eq_true rfl) (Nat.le_of_ble_eq_true rfl) dL_works_20
    · refine xh_2 hc hw htab rfl (by decide) (by decide) mw_314 mw_234 (by decide +kernel) hq1 hq2 hq3 ?_
      refine lv_astore (lv' := [(6, .ref q9), (0, .ref (ad 6 0)), (1, .int a), (2, .int b), (3, .int d), (4, .int f), (5, .ref (ad 8 0))]) hx hb dL_works_21 hl (by decide) rfl (fun ls hl => ?_)
      refine lv_iconst (v := 2) hx hb dL_works_23 (by decide) ?_
      exact xr_i hc hlocks hr rfl hw (Or.inr (Or.inr ⟨rfl, Or.inr ⟨rfl, hpx⟩, rfl⟩)) (Nat.le_of_ble_eq_true rfl) (Nat.le_of_ble_eq_true rfl) dL_works_24
  have hq_9 := hq
  refine lv_i2l hx hb dL_works_12 rfl ?_
  refine xl_st (j := 0) hc hw (Nat.zero_lt_one) rfl (by decide) dL_works_13 (fun H locs hw => ?_)
  refine lv_goto (tgt := 25) hx hb dL_works_14 (by decide) ?_
  refine lv_iconst (v := 0) hx hb dL_works_25 (by decide) ?_
  exact xr_i hc hlocks hr rfl hw (Or.inl ⟨rfl, r_9, σ_9, hq_9, rfl⟩) (Nat.le_of_ble_eq_true rfl) (Nat.le_of_ble_eq_true rfl) dL_works_26
/-- L_grind -/
def q_L_grind (ad : Nat → Nat → Nat) (nS nB nC nO : Nat) (σ : x_St) (a : Int32) : Int32 → x_St → Prop := fun k u => (k = 0 ∧ ∃ (r : Int32) (σ' : x_St), q_X6_grind σ a r σ' ∧ u = x_up σ' 8 0 0 r) ∨ (k = 1 ∧ (fun E => E = x_nse ∧ ¬ (0 ≤ a ∧ a ≤ 5)) x_nse ∧ u = σ)
set_option maxHeartbeats 4000000 in
set_option maxRecDepth 100000 in
theorem c_L_grind {l : Launch} {D : va_G} {cs : Nat → ClassId} {base : Nat} {ad : Nat → Nat → Nat} {nS nB nC nO : Nat} {σ : x_St} (hl0 : l.stackTraces = false) (a : Int32) : x_Wi l yL_grind cL_grind 4 (some .int) [(0, 9, 12, 13)] 84 1 6 D cs base ad (x_n nS nB nC nO) (x_s nS nB nC nO nS nC) σ [.ref (ad 6 0), .int a, .ref (ad 8 0)] (q_L_grind ad nS nB nC nO σ a) (fun σ' => x_U D cs base ad (x_n nS nB nC nO) (x_s nS nB nC nO nS nC) σ') := by
  refine va_MetW (cc := cL_grind) (maxL := 4) (ret := some .int) (hh := [(0, 9, 12, 13)]) (by decide) rfl ?_
  intro p e s m args below meth c s₁ B hml hv
  obtain ⟨rfl, hU⟩ := hv
  have hx := B.exec
  have hb := B.bytes
  have hr := B.returns
  have hts := atoms_spec (ws := Cond.codeWith yL_grind cL_grind 4 (some .int) [(0, 9, 12, 13)] :: Tw) B.pre
  have htab := vx_table (x := yL_grind) B (hts _ List.mem_cons_self)
  have hown : s.vm.findClass RL = some m.cls := findClass_of_methodNamed B.named
  have hlocks := B.notSynchronized
  have hc : CallFix p m c cL_grind 4 s (([.ref (ad 6 0), .int a, .ref (ad 8 0)] : List Value).toArray) Tw RL := ⟨hx, hb, hml, hown, fun w hw => hts w (List.mem_cons_of_mem _ hw)⟩
  have hw := x_B.start hU
  have hl := lv_entry ([.ref (ad 6 0), .int a, .ref (ad 8 0)]) (n := 4) (Nat.le_of_ble_eq_true rfl)
  rw [lg_entry_eq]
  generalize (lg_sl ([.ref (ad 6 0), .int a, .ref (ad 8 0)]) ++ List.replicate (4 - (lg_sl ([.ref (ad 6 0), .int a, .ref (ad 8 0)])).length) Slot.unset).toArray = ls at hl ⊢
  have hl : lv_has ls 4 [(0, .ref (ad 6 0)), (1, .int a), (2, .ref (ad 8 0))] := hl
  show W p l e (x_rm 84 1 6) s m ([.ref (ad 6 0), .int a, .ref (ad 8 0)] : List Value).toArray below meth c s.heap [] 0 0 (MQ below (va_Qi (q_L_grind ad nS nB nC nO σ a) (fun σ' => x_U D cs base ad (x_n nS nB nC nO) (x_s nS nB nC nO nS nC) σ') (x_A base)) ([.ref (ad 6 0), .int a, .ref (ad 8 0)] : List Value).toArray s 1 6 (x_A base)) (F0 m 0 ls [])
  refine lv_aload_n hx hb dL_grind_0 rfl (lv_at hl 2 rfl) ?_
  refine lv_iconst (v := 0) hx hb dL_grind_1 (by decide) ?_
  refine lv_aload_n hx hb dL_grind_2 rfl (lv_at hl 0 rfl) ?_
  refine lv_iload_n hx hb dL_grind_3 rfl (lv_at hl 1 rfl) ?_
  refine xc_Xi hc hw 6 0 (c_X6_grind hl0 a) rfl rfl (Nat.zero_lt_one) mw_524 mw_521 mw_1 mw_522 mw_523 xd_X6_grind ⟨by decide, by decide⟩ (rfl) hl.1 (Nat.le_of_ble_eq_true rfl) dL_grind_4 ⟨Nat.le_of_ble_eq_true rfl, Nat.le_of_ble_eq_true rfl⟩ (fun E ce q9 H locs hp hw hq1 hq2 hq3 => ?_) (fun r_4 σ_4 H locs hq hw => ?_)
  · obtain ⟨rfl, hpx⟩ := hp
    refine xh_1 hc hw htab rfl (by decide)  mw_234 (by decide +kernel) hq1 hq2 hq3 ?_
    refine lv_astore_n (lv' := [(3, .ref q9), (0, .ref (ad 6 0)), (1, .int a), (2, .ref (ad 8 0))]) hx hb dL_grind_12 rfl hl (by decide) rfl (fun ls hl => ?_)
    refine lv_iconst (v := 1) hx hb dL_grind_13 (by decide) ?_
    exact xr_i hc hlocks hr rfl hw (Or.inr ⟨rfl, ⟨rfl, hpx⟩, rfl⟩) (Nat.le_of_ble_eq_true rfl) (Nat.le_of_ble_eq_true rfl) dL_grind_14
  have hq_4 := hq
  refine lv_i2l hx hb dL_grind_7 rfl ?_
  refine xl_st (j := 0) hc hw (Nat.zero_lt_one) rfl (by decide) dL_grind_8 (fun H locs hw => ?_)
  refine lv_goto (tgt := 15) hx hb dL_grind_9 (by decide) ?_
  refine lv_iconst (v := 0) hx hb dL_grind_15 (by decide) ?_
  exact xr_i hc hlocks hr rfl hw (Or.inl ⟨rfl, r_4, σ_4, hq_4, rfl⟩) (Nat.le_of_ble_eq_true rfl) (Nat.le_of_ble_eq_true rfl) dL_grind_16
/-- L_machine -/
def q_L_machine (ad : Nat → Nat → Nat) (nS nB nC nO : Nat) (σ : x_St) (a b : Int32) : Int32 → x_St → Prop := fun k u => (k = 0 ∧ ∃ (r : Int32) (σ' : x_St), q_X6_machine σ a b r σ' ∧ u = x_up σ' 8 0 0 r) ∨ (k = 1 ∧ (fun E => E = x_nse ∧ ¬ ((0 ≤ a ∧ a ≤ 5) ∧ 0 ≤ b ∧ b ≤ 3)) x_nse ∧ u = σ)
set_option maxHeartbeats 4000000 in
set_option maxRecDepth 100000 in
theorem c_L_machine {l : Launch} {D : va_G} {cs : Nat → ClassId} {base : Nat} {ad : Nat → Nat → Nat} {nS nB nC nO : Nat} {σ : x_St} (hl0 : l.stackTraces = false) (a b : Int32)  : x_Wi l yL_machine cL_machine 5 (some .int) [(0, 10, 13, 13)] 84 2 12 D cs base ad (x_n nS nB nC nO) (x_s nS nB nC nO nS nC) σ [.ref (ad 6 0), .int a, .int b, .ref (ad 8 0)] (q_L_machine ad nS nB nC nO σ a b) (fun σ' => x_U D cs base ad (x_n nS nB nC nO) (x_s nS nB nC nO nS nC) σ') := by
  refine va_MetW (cc := cL_machine) (maxL := 5) (ret := some .int) (hh := [(0, 10, 13, 13)]) (by decide) rfl ?_
  intro p e s m args below meth c s₁ B hml hv
  obtain ⟨rfl, hU⟩ := hv
  have hx := B.exec
  have hb := B.bytes
  have hr := B.returns
  have hts := atoms_spec (ws := Cond.codeWith yL_machine cL_machine 5 (some .int) [(0, 10, 13, 13)] :: Tw) B.pre
  have htab := vx_table (x := yL_machine) B (hts _ List.mem_cons_self)
  have hown : s.vm.findClass RL = some m.cls := findClass_of_methodNamed B.named
  have hlocks := B.notSynchronized
  have hc : CallFix p m c cL_machine 5 s (([.ref (ad 6 0), .int a, .int b, .ref (ad 8 0)] : List Value).toArray) Tw RL := ⟨hx, hb, hml, hown, fun w hw => hts w (List.mem_cons_of_mem _ hw)⟩
  have hw := x_B.start hU
  have hl := lv_entry ([.ref (ad 6 0), .int a, .int b, .ref (ad 8 0)]) (n := 5) (Nat.le_of_ble_eq_true rfl)
  rw [lg_entry_eq]
  generalize (lg_sl ([.ref (ad 6 0), .int a, .int b, .ref (ad 8 0)]) ++ List.replicate (5 - (lg_sl ([.ref (ad 6 0), .int a, .int b, .ref (ad 8 0)])).length) Slot.unset).toArray = ls at hl ⊢
  have hl : lv_has ls 5 [(0, .ref (ad 6 0)), (1, .int a), (2, .int b), (3, .ref (ad 8 0))] := hl
  show W p l e (x_rm 84 2 12) s m ([.ref (ad 6 0), .int a, .int b, .ref (ad 8 0)] : List Value).toArray below meth c s.heap [] 0 0 (MQ below (va_Qi (q_L_machine ad nS nB nC nO σ a b) (fun σ' => x_U D cs base ad (x_n nS nB nC nO) (x_s nS nB nC nO nS nC) σ') (x_A base)) ([.ref (ad 6 0), .int a, .int b, .ref (ad 8 0)] : List Value).toArray s 2 12 (x_A base)) (F0 m 0 ls [])
  refine lv_aload_n hx hb dL_machine_0 rfl (lv_at hl 3 rfl) ?_
  refine lv_iconst (v := 0) hx hb dL_machine_1 (by decide) ?_
  refine lv_aload_n hx hb dL_machine_2 rfl (lv_at hl 0 rfl) ?_
  refine lv_iload_n hx hb dL_machine_3 rfl (lv_at hl 1 rfl) ?_
  refine lv_iload_n hx hb dL_machine_4 rfl (lv_at hl 2 rfl) ?_
  refine xc_Xi hc hw 6 0 (c_X6_machine hl0 a b) rfl rfl (Nat.zero_lt_one) mw_531 mw_528 mw_1 mw_529 mw_530 xd_X6_machine ⟨by decide, by decide⟩ (rfl) hl.1 (Nat.le_of_ble_eq_true rfl) dL_machine_5 ⟨Nat.le_of_ble_eq_true rfl, Nat.le_of_ble_eq_true rfl⟩ (fun E ce q9 H locs hp hw hq1 hq2 hq3 => ?_) (fun r_5 σ_5 H locs hq hw => ?_)
  · obtain ⟨rfl, hpx⟩ := hp
    refine xh_1 hc hw htab rfl (by decide)  mw_234 (by decide +kernel) hq1 hq2 hq3 ?_
    refine lv_astore (lv' := [(4, .ref q9), (0, .ref (ad 6 0)), (1, .int a), (2, .int b), (3, .ref (ad 8 0))]) hx hb dL_machine_13 hl (by decide) rfl (fun ls hl => ?_)
    refine lv_iconst (v := 1) hx hb dL_machine_15 (by decide) ?_
    exact xr_i hc hlocks hr rfl hw (Or.inr ⟨rfl, ⟨rfl, hpx⟩, rfl⟩) (Nat.le_of_ble_eq_true rfl) (Nat.le_of_ble_eq_true rfl) dL_machine_16
  have hq_5 := hq
  refine lv_i2l hx hb dL_machine_8 rfl ?_
  refine xl_st (j := 0) hc hw (Nat.zero_lt_one) rfl (by decide) dL_machine_9 (fun H locs hw => ?_)
  refine lv_goto (tgt := 17) hx hb dL_machine_10 (by decide) ?_
  refine lv_iconst (v := 0) hx hb dL_machine_17 (by decide) ?_
  exact xr_i hc hlocks hr rfl hw (Or.inl ⟨rfl, r_5, σ_5, hq_5, rfl⟩) (Nat.le_of_ble_eq_true rfl) (Nat.le_of_ble_eq_true rfl) dL_machine_18
/-- L_bleach -/
def q_L_bleach (ad : Nat → Nat → Nat) (nS nB nC nO : Nat) (σ : x_St) (a b : Int32) : Int32 → x_St → Prop := fun k u => (k = 0 ∧ ∃ (r : Int32) (σ' : x_St), q_X6_bleach σ a b nB r σ' ∧ u = x_up σ' 8 0 0 r) ∨ (k = 1 ∧ (fun E => (E = x_nse ∧ ¬ (0 ≤ a ∧ a < σ 6 0 1)) ∨ (E = x_iae ∧ (0 ≤ a ∧ a < σ 6 0 1) ∧ ¬ (0 ≤ b ∧ b ≤ 9))) x_nse ∧ u = σ) ∨ (k = 2 ∧ (fun E => (E = x_nse ∧ ¬ (0 ≤ a ∧ a < σ 6 0 1)) ∨ (E = x_iae ∧ (0 ≤ a ∧ a < σ 6 0 1) ∧ ¬ (0 ≤ b ∧ b ≤ 9))) x_iae ∧ u = σ)
set_option maxHeartbeats 4000000 in
set_option maxRecDepth 100000 in
theorem c_L_bleach {l : Launch} {D : va_G} {cs : Nat → ClassId} {base : Nat} {ad : Nat → Nat → Nat} {nS nB nC nO : Nat} {σ : x_St} (hl0 : l.stackTraces = false) (a b : Int32) (hS : σ 6 0 1 = nI nS) (hS0 : nS ≤ 30) (hB : σ 6 0 3 = nI nB) (hB0 : nB ≤ 400) : x_Wi l yL_bleach cL_bleach 5 (some .int) [(0, 10, 13, 13), (0, 10, 17, 19)] 84 2 12 D cs base ad (x_n nS nB nC nO) (x_s nS nB nC nO nS nC) σ [.ref (ad 6 0), .int a, .int b, .ref (ad 8 0)] (q_L_bleach ad nS nB nC nO σ a b) (fun σ' => x_U D cs base ad (x_n nS nB nC nO) (x_s nS nB nC nO nS nC) σ') := by
  refine va_MetW (cc := cL_bleach) (maxL := 5) (ret := some .int) (hh := [(0, 10, 13, 13), (0, 10, 17, 19)]) (by decide) rfl ?_
  intro p e s m args below meth c s₁ B hml hv
  obtain ⟨rfl, hU⟩ := hv
  have hx := B.exec
  have hb := B.bytes
  have hr := B.returns
  have hts := atoms_spec (ws := Cond.codeWith yL_bleach cL_bleach 5 (some .int) [(0, 10, 13, 13), (0, 10, 17, 19)] :: Tw) B.pre
  have htab := vx_table (x := yL_bleach) B (hts _ List.mem_cons_self)
  have hown : s.vm.findClass RL = some m.cls := findClass_of_methodNamed B.named
  have hlocks := B.notSynchronized
  have hc : CallFix p m c cL_bleach 5 s (([.ref (ad 6 0), .int a, .int b, .ref (ad 8 0)] : List Value).toArray) Tw RL := ⟨hx, hb, hml, hown, fun w hw => hts w (List.mem_cons_of_mem _ hw)⟩
  have hw := x_B.start hU
  have hl := lv_entry ([.ref (ad 6 0), .int a, .int b, .ref (ad 8 0)]) (n := 5) (Nat.le_of_ble_eq_true rfl)
  rw [lg_entry_eq]
  generalize (lg_sl ([.ref (ad 6 0), .int a, .int b, .ref (ad 8 0)]) ++ List.replicate (5 - (lg_sl ([.ref (ad 6 0), .int a, .int b, .ref (ad 8 0)])).length) Slot.unset).toArray = ls at hl ⊢
  have hl : lv_has ls 5 [(0, .ref (ad 6 0)), (1, .int a), (2, .int b), (3, .ref (ad 8 0))] := hl
  show W p l e (x_rm 84 2 12) s m ([.ref (ad 6 0), .int a, .int b, .ref (ad 8 0)] : List Value).toArray below meth c s.heap [] 0 0 (MQ below (va_Qi (q_L_bleach ad nS nB nC nO σ a b) (fun σ' => x_U D cs base ad (x_n nS nB nC nO) (x_s nS nB nC nO nS nC) σ') (x_A base)) ([.ref (ad 6 0), .int a, .int b, .ref (ad 8 0)] : List Value).toArray s 2 12 (x_A base)) (F0 m 0 ls [])
  refine lv_aload_n hx hb dL_bleach_0 rfl (lv_at hl 3 rfl) ?_
  refine lv_iconst (v := 0) hx hb dL_bleach_1 (by decide) ?_
  refine lv_aload_n hx hb dL_bleach_2 rfl (lv_at hl 0 rfl) ?_
  refine lv_iload_n hx hb dL_bleach_3 rfl (lv_at hl 1 rfl) ?_
  refine lv_iload_n hx hb dL_bleach_4 rfl (lv_at hl 2 rfl) ?_
  refine xc_Xi hc hw 6 0 (c_X6_bleach hl0 a b hS hS0 hB hB0) rfl rfl (Nat.zero_lt_one) mw_539 mw_536 mw_1 mw_537 mw_538 xd_X6_bleach ⟨by decide, by decide⟩ (rfl) hl.1 (Nat.le_of_ble_eq_true rfl) dL_bleach_5 ⟨Nat.le_of_ble_eq_true rfl, Nat.le_of_ble_eq_true rfl⟩ (fun E ce q9 H locs hp hw hq1 hq2 hq3 => ?_) (fun r_5 σ_5 H locs hq hw => ?_)
  · rcases hp with ⟨rfl, hpx⟩ | ⟨rfl, hpx⟩
    · refine xh_1 hc hw htab rfl (by decide)  mw_234 (by decide +kernel) hq1 hq2 hq3 ?_
      refine lv_astore (lv' := [(4, .ref q9), (0, .ref (ad 6 0)), (1, .int a), (2, .int b), (3, .ref (ad 8 0))]) hx hb dL_bleach_13 hl (by decide) rfl (fun ls hl => ?_)
      refine lv_iconst (v := 1) hx hb dL_bleach_15 (by decide) ?_
      exact xr_i hc hlocks hr rfl hw (Or.inr (Or.inl ⟨rfl, Or.inl ⟨rfl, hpx⟩, rfl⟩)) (Nat.le_of_ble_eq_true rfl) (Nat.le_of_ble_eq_true rfl) dL_bleach_16
    · refine xh_2 hc hw htab rfl (by decide) (by decide) mw_314 mw_234 (by decide +kernel) hq1 hq2 hq3 ?_
      refine lv_astore (lv' := [(4, .ref q9), (0, .ref (ad 6 0)), (1, .int a), (2, .int b), (3, .ref (ad 8 0))]) hx hb dL_bleach_17 hl (by decide) rfl (fun ls hl => ?_)
      refine lv_iconst (v := 2) hx hb dL_bleach_19 (by decide) ?_
      exact xr_i hc hlocks hr rfl hw (Or.inr (Or.inr ⟨rfl, Or.inr ⟨rfl, hpx⟩, rfl⟩)) (Nat.le_of_ble_eq_true rfl) (Nat.le_of_ble_eq_true rfl) dL_bleach_20
  have hq_5 := hq
  refine lv_i2l hx hb dL_bleach_8 rfl ?_
  refine xl_st (j := 0) hc hw (Nat.zero_lt_one) rfl (by decide) dL_bleach_9 (fun H locs hw => ?_)
  refine lv_goto (tgt := 21) hx hb dL_bleach_10 (by decide) ?_
  refine lv_iconst (v := 0) hx hb dL_bleach_21 (by decide) ?_
  exact xr_i hc hlocks hr rfl hw (Or.inl ⟨rfl, r_5, σ_5, hq_5, rfl⟩) (Nat.le_of_ble_eq_true rfl) (Nat.le_of_ble_eq_true rfl) dL_bleach_22
/-- L_cardOf -/
def q_L_cardOf (ad : Nat → Nat → Nat) (nS nB nC nO : Nat) (σ : x_St) (a b : Int32) : Int32 → x_St → Prop := fun k u => (k = 0 ∧ ∃ (r : Int32) (σ' : x_St), q_X6_cardOf σ a b r σ' ∧ u = x_up σ' 8 0 0 r) ∨ (k = 1 ∧ (fun E => E = x_nse ∧ ¬ ((0 ≤ a ∧ a < σ 6 0 6) ∧ 0 ≤ b ∧ b ≤ 5)) x_nse ∧ u = σ)
set_option maxHeartbeats 4000000 in
set_option maxRecDepth 100000 in
theorem c_L_cardOf {l : Launch} {D : va_G} {cs : Nat → ClassId} {base : Nat} {ad : Nat → Nat → Nat} {nS nB nC nO : Nat} {σ : x_St} (hl0 : l.stackTraces = false) (a b : Int32) (hC : σ 6 0 6 = nI nC) (hC0 : nC ≤ 30) : x_Wi l yL_cardOf cL_cardOf 5 (some .int) [(0, 10, 13, 13)] 84 2 12 D cs base ad (x_n nS nB nC nO) (x_s nS nB nC nO nS nC) σ [.ref (ad 6 0), .int a, .int b, .ref (ad 8 0)] (q_L_cardOf ad nS nB nC nO σ a b) (fun σ' => x_U D cs base ad (x_n nS nB nC nO) (x_s nS nB nC nO nS nC) σ') := by
  refine va_MetW (cc := cL_cardOf) (maxL := 5) (ret := some .int) (hh := [(0, 10, 13, 13)]) (by decide) rfl ?_
  intro p e s m args below meth c s₁ B hml hv
  obtain ⟨rfl, hU⟩ := hv
  have hx := B.exec
  have hb := B.bytes
  have hr := B.returns
  have hts := atoms_spec (ws := Cond.codeWith yL_cardOf cL_cardOf 5 (some .int) [(0, 10, 13, 13)] :: Tw) B.pre
  have htab := vx_table (x := yL_cardOf) B (hts _ List.mem_cons_self)
  have hown : s.vm.findClass RL = some m.cls := findClass_of_methodNamed B.named
  have hlocks := B.notSynchronized
  have hc : CallFix p m c cL_cardOf 5 s (([.ref (ad 6 0), .int a, .int b, .ref (ad 8 0)] : List Value).toArray) Tw RL := ⟨hx, hb, hml, hown, fun w hw => hts w (List.mem_cons_of_mem _ hw)⟩
  have hw := x_B.start hU
  have hl := lv_entry ([.ref (ad 6 0), .int a, .int b, .ref (ad 8 0)]) (n := 5) (Nat.le_of_ble_eq_true rfl)
  rw [lg_entry_eq]
  generalize (lg_sl ([.ref (ad 6 0), .int a, .int b, .ref (ad 8 0)]) ++ List.replicate (5 - (lg_sl ([.ref (ad 6 0), .int a, .int b, .ref (ad 8 0)])).length) Slot.unset).toArray = ls at hl ⊢
  have hl : lv_has ls 5 [(0, .ref (ad 6 0)), (1, .int a), (2, .int b), (3, .ref (ad 8 0))] := hl
  show W p l e (x_rm 84 2 12) s m ([.ref (ad 6 0), .int a, .int b, .ref (ad 8 0)] : List Value).toArray below meth c s.heap [] 0 0 (MQ below (va_Qi (q_L_cardOf ad nS nB nC nO σ a b) (fun σ' => x_U D cs base ad (x_n nS nB nC nO) (x_s nS nB nC nO nS nC) σ') (x_A base)) ([.ref (ad 6 0), .int a, .int b, .ref (ad 8 0)] : List Value).toArray s 2 12 (x_A base)) (F0 m 0 ls [])
  refine lv_aload_n hx hb dL_cardOf_0 rfl (lv_at hl 3 rfl) ?_
  refine lv_iconst (v := 0) hx hb dL_cardOf_1 (by decide) ?_
  refine lv_aload_n hx hb dL_cardOf_2 rfl (lv_at hl 0 rfl) ?_
  refine lv_iload_n hx hb dL_cardOf_3 rfl (lv_at hl 1 rfl) ?_
  refine lv_iload_n hx hb dL_cardOf_4 rfl (lv_at hl 2 rfl) ?_
  refine xc_Xi hc hw 6 0 (c_X6_cardOf hl0 a b hC hC0) rfl rfl (Nat.zero_lt_one) mw_624 mw_621 mw_1 mw_622 mw_623 xd_X6_cardOf ⟨by decide, by decide⟩ (rfl) hl.1 (Nat.le_of_ble_eq_true rfl) dL_cardOf_5 ⟨Nat.le_of_ble_eq_true rfl, Nat.le_of_ble_eq_true rfl⟩ (fun E ce q9 H locs hp hw hq1 hq2 hq3 => ?_) (fun r_5 σ_5 H locs hq hw => ?_)
  · obtain ⟨rfl, hpx⟩ := hp
    refine xh_1 hc hw htab rfl (by decide)  mw_234 (by decide +kernel) hq1 hq2 hq3 ?_
    refine lv_astore (lv' := [(4, .ref q9), (0, .ref (ad 6 0)), (1, .int a), (2, .int b), (3, .ref (ad 8 0))]) hx hb dL_cardOf_13 hl (by decide) rfl (fun ls hl => ?_)
    refine lv_iconst (v := 1) hx hb dL_cardOf_15 (by decide) ?_
    exact xr_i hc hlocks hr rfl hw (Or.inr ⟨rfl, ⟨rfl, hpx⟩, rfl⟩) (Nat.le_of_ble_eq_true rfl) (Nat.le_of_ble_eq_true rfl) dL_cardOf_16
  have hq_5 := hq
  refine lv_i2l hx hb dL_cardOf_8 rfl ?_
  refine xl_st (j := 0) hc hw (Nat.zero_lt_one) rfl (by decide) dL_cardOf_9 (fun H locs hw => ?_)
  refine lv_goto (tgt := 17) hx hb dL_cardOf_10 (by decide) ?_
  refine lv_iconst (v := 0) hx hb dL_cardOf_17 (by decide) ?_
  exact xr_i hc hlocks hr rfl hw (Or.inl ⟨rfl, r_5, σ_5, hq_5, rfl⟩) (Nat.le_of_ble_eq_true rfl) (Nat.le_of_ble_eq_true rfl) dL_cardOf_18
/-- L_onCard -/
def q_L_onCard (ad : Nat → Nat → Nat) (nS nB nC nO : Nat) (σ : x_St) (a b : Int32) : Int32 → x_St → Prop := fun k u => (k = 0 ∧ ∃ (r : Int32) (σ' : x_St), q_X6_onCard σ a b r σ' ∧ u = x_up σ' 8 0 0 r) ∨ (k = 1 ∧ (fun E => E = x_nse ∧ ¬ ((0 ≤ a ∧ a < σ 6 0 6) ∧ 0 ≤ b ∧ b ≤ 11)) x_nse ∧ u = σ)
set_option maxHeartbeats 4000000 in
set_option maxRecDepth 100000 in
theorem c_L_onCard {l : Launch} {D : va_G} {cs : Nat → ClassId} {base : Nat} {ad : Nat → Nat → Nat} {nS nB nC nO : Nat} {σ : x_St} (hl0 : l.stackTraces = false) (a b : Int32) (hC : σ 6 0 6 = nI nC) (hC0 : nC ≤ 30) : x_Wi l yL_onCard cL_onCard 5 (some .int) [(0, 10, 13, 13)] 84 2 12 D cs base ad (x_n nS nB nC nO) (x_s nS nB nC nO nS nC) σ [.ref (ad 6 0), .int a, .int b, .ref (ad 8 0)] (q_L_onCard ad nS nB nC nO σ a b) (fun σ' => x_U D cs base ad (x_n nS nB nC nO) (x_s nS nB nC nO nS nC) σ') := by
  refine va_MetW (cc := cL_onCard) (maxL := 5) (ret := some .int) (hh := [(0, 10, 13, 13)]) (by decide) rfl ?_
  intro p e s m args below meth c s₁ B hml hv
  obtain ⟨rfl, hU⟩ := hv
  have hx := B.exec
  have hb := B.bytes
  have hr := B.returns
  have hts := atoms_spec (ws := Cond.codeWith yL_onCard cL_onCard 5 (some .int) [(0, 10, 13, 13)] :: Tw) B.pre
  have htab := vx_table (x := yL_onCard) B (hts _ List.mem_cons_self)
  have hown : s.vm.findClass RL = some m.cls := findClass_of_methodNamed B.named
  have hlocks := B.notSynchronized
  have hc : CallFix p m c cL_onCard 5 s (([.ref (ad 6 0), .int a, .int b, .ref (ad 8 0)] : List Value).toArray) Tw RL := ⟨hx, hb, hml, hown, fun w hw => hts w (List.mem_cons_of_mem _ hw)⟩
  have hw := x_B.start hU
  have hl := lv_entry ([.ref (ad 6 0), .int a, .int b, .ref (ad 8 0)]) (n := 5) (Nat.le_of_ble_eq_true rfl)
  rw [lg_entry_eq]
  generalize (lg_sl ([.ref (ad 6 0), .int a, .int b, .ref (ad 8 0)]) ++ List.replicate (5 - (lg_sl ([.ref (ad 6 0), .int a, .int b, .ref (ad 8 0)])).length) Slot.unset).toArray = ls at hl ⊢
  have hl : lv_has ls 5 [(0, .ref (ad 6 0)), (1, .int a), (2, .int b), (3, .ref (ad 8 0))] := hl
  show W p l e (x_rm 84 2 12) s m ([.ref (ad 6 0), .int a, .int b, .ref (ad 8 0)] : List Value).toArray below meth c s.heap [] 0 0 (MQ below (va_Qi (q_L_onCard ad nS nB nC nO σ a b) (fun σ' => x_U D cs base ad (x_n nS nB nC nO) (x_s nS nB nC nO nS nC) σ') (x_A base)) ([.ref (ad 6 0), .int a, .int b, .ref (ad 8 0)] : List Value).toArray s 2 12 (x_A base)) (F0 m 0 ls [])
  refine lv_aload_n hx hb dL_onCard_0 rfl (lv_at hl 3 rfl) ?_
  refine lv_iconst (v := 0) hx hb dL_onCard_1 (by decide) ?_
  refine lv_aload_n hx hb dL_onCard_2 rfl (lv_at hl 0 rfl) ?_
  refine lv_iload_n hx hb dL_onCard_3 rfl (lv_at hl 1 rfl) ?_
  refine lv_iload_n hx hb dL_onCard_4 rfl (lv_at hl 2 rfl) ?_
  refine xc_Xi hc hw 6 0 (c_X6_onCard hl0 a b hC hC0) rfl rfl (Nat.zero_lt_one) mw_637 mw_634 mw_1 mw_635 mw_636 xd_X6_onCard ⟨by decide, by decide⟩ (rfl) hl.1 (Nat.le_of_ble_eq_true rfl) dL_onCard_5 ⟨Nat.le_of_ble_eq_true rfl, Nat.le_of_ble_eq_true rfl⟩ (fun E ce q9 H locs hp hw hq1 hq2 hq3 => ?_) (fun r_5 σ_5 H locs hq hw => ?_)
  · obtain ⟨rfl, hpx⟩ := hp
    refine xh_1 hc hw htab rfl (by decide)  mw_234 (by decide +kernel) hq1 hq2 hq3 ?_
    refine lv_astore (lv' := [(4, .ref q9), (0, .ref (ad 6 0)), (1, .int a), (2, .int b), (3, .ref (ad 8 0))]) hx hb dL_onCard_13 hl (by decide) rfl (fun ls hl => ?_)
    refine lv_iconst (v := 1) hx hb dL_onCard_15 (by decide) ?_
    exact xr_i hc hlocks hr rfl hw (Or.inr ⟨rfl, ⟨rfl, hpx⟩, rfl⟩) (Nat.le_of_ble_eq_true rfl) (Nat.le_of_ble_eq_true rfl) dL_onCard_16
  have hq_5 := hq
  refine lv_i2l hx hb dL_onCard_8 rfl ?_
  refine xl_st (j := 0) hc hw (Nat.zero_lt_one) rfl (by decide) dL_onCard_9 (fun H locs hw => ?_)
  refine lv_goto (tgt := 17) hx hb dL_onCard_10 (by decide) ?_
  refine lv_iconst (v := 0) hx hb dL_onCard_17 (by decide) ?_
  exact xr_i hc hlocks hr rfl hw (Or.inl ⟨rfl, r_5, σ_5, hq_5, rfl⟩) (Nat.le_of_ble_eq_true rfl) (Nat.le_of_ble_eq_true rfl) dL_onCard_18
/-- L_send -/
def q_L_send (ad : Nat → Nat → Nat) (nS nB nC nO : Nat) (σ : x_St) (a : Int32) : Int32 → x_St → Prop := fun k u => (k = 0 ∧ ∃ (r : Int32) (σ' : x_St), q_X6_send σ a nC nO r σ' ∧ u = x_up σ' 8 0 0 r) ∨ (k = 1 ∧ (fun E => E = x_iae ∧ ¬ (0 ≤ a ∧ a ≤ 2000)) x_iae ∧ u = σ)
set_option maxHeartbeats 4000000 in
set_option maxRecDepth 100000 in
theorem c_L_send {l : Launch} {D : va_G} {cs : Nat → ClassId} {base : Nat} {ad : Nat → Nat → Nat} {nS nB nC nO : Nat} {σ : x_St} (hl0 : l.stackTraces = false) (a : Int32) (hC : σ 6 0 6 = nI nC) (hC0 : nC ≤ 30) (hO : σ 6 0 8 = nI nO) (hO0 : nO ≤ 30) (hbd : ∀ q, q < nO → σ 18 0 q = nI (x_c (σ 18 0 q)) ∧ x_c (σ 18 0 q) < nO) (hcd : ∀ q, q < nO → σ 4 q 0 = nI (x_c (σ 4 q 0)) ∧ x_c (σ 4 q 0) ≤ 9) : x_Wi l yL_send cL_send 4 (some .int) [(0, 9, 12, 19)] 84 1 6 D cs base ad (x_n nS nB nC nO) (x_s nS nB nC nO nS nC) σ [.ref (ad 6 0), .int a, .ref (ad 8 0)] (q_L_send ad nS nB nC nO σ a) (fun σ' => x_U D cs base ad (x_n nS nB nC nO) (x_s nS nB nC nO nS nC) σ') := by
  refine va_MetW (cc := cL_send) (maxL := 4) (ret := some .int) (hh := [(0, 9, 12, 19)]) (by decide) rfl ?_
  intro p e s m args below meth c s₁ B hml hv
  obtain ⟨rfl, hU⟩ := hv
  have hx := B.exec
  have hb := B.bytes
  have hr := B.returns
  have hts := atoms_spec (ws := Cond.codeWith yL_send cL_send 4 (some .int) [(0, 9, 12, 19)] :: Tw) B.pre
  have htab := vx_table (x := yL_send) B (hts _ List.mem_cons_self)
  have hown : s.vm.findClass RL = some m.cls := findClass_of_methodNamed B.named
  have hlocks := B.notSynchronized
  have hc : CallFix p m c cL_send 4 s (([.ref (ad 6 0), .int a, .ref (ad 8 0)] : List Value).toArray) Tw RL := ⟨hx, hb, hml, hown, fun w hw => hts w (List.mem_cons_of_mem _ hw)⟩
  have hw := x_B.start hU
  have hl := lv_entry ([.ref (ad 6 0), .int a, .ref (ad 8 0)]) (n := 4) (Nat.le_of_ble_eq_true rfl)
  rw [lg_entry_eq]
  generalize (lg_sl ([.ref (ad 6 0), .int a, .ref (ad 8 0)]) ++ List.replicate (4 - (lg_sl ([.ref (ad 6 0), .int a, .ref (ad 8 0)])).length) Slot.unset).toArray = ls at hl ⊢
  have hl : lv_has ls 4 [(0, .ref (ad 6 0)), (1, .int a), (2, .ref (ad 8 0))] := hl
  show W p l e (x_rm 84 1 6) s m ([.ref (ad 6 0), .int a, .ref (ad 8 0)] : List Value).toArray below meth c s.heap [] 0 0 (MQ below (va_Qi (q_L_send ad nS nB nC nO σ a) (fun σ' => x_U D cs base ad (x_n nS nB nC nO) (x_s nS nB nC nO nS nC) σ') (x_A base)) ([.ref (ad 6 0), .int a, .ref (ad 8 0)] : List Value).toArray s 1 6 (x_A base)) (F0 m 0 ls [])
  refine lv_aload_n hx hb dL_send_0 rfl (lv_at hl 2 rfl) ?_
  refine lv_iconst (v := 0) hx hb dL_send_1 (by decide) ?_
  refine lv_aload_n hx hb dL_send_2 rfl (lv_at hl 0 rfl) ?_
  refine lv_iload_n hx hb dL_send_3 rfl (lv_at hl 1 rfl) ?_
  refine xc_Xi hc hw 6 0 (c_X6_send hl0 a hC hC0 hO hO0 hbd hcd) rfl rfl (Nat.zero_lt_one) mw_645 mw_642 mw_1 mw_643 mw_644 xd_X6_send ⟨by decide, by decide⟩ (rfl) hl.1 (Nat.le_of_ble_eq_true rfl) dL_send_4 ⟨Nat.le_of_ble_eq_true rfl, Nat.le_of_ble_eq_true rfl⟩ (fun E ce q9 H locs hp hw hq1 hq2 hq3 => ?_) (fun r_4 σ_4 H locs hq hw => ?_)
  · obtain ⟨rfl, hpx⟩ := hp
    refine xh_1 hc hw htab rfl (by decide)  mw_314 (by decide +kernel) hq1 hq2 hq3 ?_
    refine lv_astore_n (lv' := [(3, .ref q9), (0, .ref (ad 6 0)), (1, .int a), (2, .ref (ad 8 0))]) hx hb dL_send_12 rfl hl (by decide) rfl (fun ls hl => ?_)
    refine lv_iconst (v := 1) hx hb dL_send_13 (by decide) ?_
    exact xr_i hc hlocks hr rfl hw (Or.inr ⟨rfl, ⟨rfl, hpx⟩, rfl⟩) (Nat.le_of_ble_eq_true rfl) (Nat.le_of_ble_eq_true rfl) dL_send_14
  have hq_4 := hq
  refine lv_i2l hx hb dL_send_7 rfl ?_
  refine xl_st (j := 0) hc hw (Nat.zero_lt_one) rfl (by decide) dL_send_8 (fun H locs hw => ?_)
  refine lv_goto (tgt := 15) hx hb dL_send_9 (by decide) ?_
  refine lv_iconst (v := 0) hx hb dL_send_15 (by decide) ?_
  exact xr_i hc hlocks hr rfl hw (Or.inl ⟨rfl, r_4, σ_4, hq_4, rfl⟩) (Nat.le_of_ble_eq_true rfl) (Nat.le_of_ble_eq_true rfl) dL_send_16
/-- L_sent -/
def q_L_sent (ad : Nat → Nat → Nat) (nS nB nC nO : Nat) (σ : x_St) (a : Int32) : Int32 → x_St → Prop := fun k u => (k = 0 ∧ ∃ (r : Int32) (σ' : x_St), q_X6_sent σ a r σ' ∧ u = x_up σ' 8 0 0 r) ∨ (k = 1 ∧ (fun E => E = x_nse ∧ ¬ (0 ≤ a ∧ a < σ 6 0 8)) x_nse ∧ u = σ)
set_option maxHeartbeats 4000000 in
set_option maxRecDepth 100000 in
theorem c_L_sent {l : Launch} {D : va_G} {cs : Nat → ClassId} {base : Nat} {ad : Nat → Nat → Nat} {nS nB nC nO : Nat} {σ : x_St} (hl0 : l.stackTraces = false) (a : Int32) (hO : σ 6 0 8 = nI nO) (hO0 : nO ≤ 30) : x_Wi l yL_sent cL_sent 4 (some .int) [(0, 9, 12, 13)] 84 1 6 D cs base ad (x_n nS nB nC nO) (x_s nS nB nC nO nS nC) σ [.ref (ad 6 0), .int a, .ref (ad 8 0)] (q_L_sent ad nS nB nC nO σ a) (fun σ' => x_U D cs base ad (x_n nS nB nC nO) (x_s nS nB nC nO nS nC) σ') := by
  refine va_MetW (cc := cL_sent) (maxL := 4) (ret := some .int) (hh := [(0, 9, 12, 13)]) (by decide) rfl ?_
  intro p e s m args below meth c s₁ B hml hv
  obtain ⟨rfl, hU⟩ := hv
  have hx := B.exec
  have hb := B.bytes
  have hr := B.returns
  have hts := atoms_spec (ws := Cond.codeWith yL_sent cL_sent 4 (some .int) [(0, 9, 12, 13)] :: Tw) B.pre
  have htab := vx_table (x := yL_sent) B (hts _ List.mem_cons_self)
  have hown : s.vm.findClass RL = some m.cls := findClass_of_methodNamed B.named
  have hlocks := B.notSynchronized
  have hc : CallFix p m c cL_sent 4 s (([.ref (ad 6 0), .int a, .ref (ad 8 0)] : List Value).toArray) Tw RL := ⟨hx, hb, hml, hown, fun w hw => hts w (List.mem_cons_of_mem _ hw)⟩
  have hw := x_B.start hU
  have hl := lv_entry ([.ref (ad 6 0), .int a, .ref (ad 8 0)]) (n := 4) (Nat.le_of_ble_eq_true rfl)
  rw [lg_entry_eq]
  generalize (lg_sl ([.ref (ad 6 0), .int a, .ref (ad 8 0)]) ++ List.replicate (4 - (lg_sl ([.ref (ad 6 0), .int a, .ref (ad 8 0)])).length) Slot.unset).toArray = ls at hl ⊢
  have hl : lv_has ls 4 [(0, .ref (ad 6 0)), (1, .int a), (2, .ref (ad 8 0))] := hl
  show W p l e (x_rm 84 1 6) s m ([.ref (ad 6 0), .int a, .ref (ad 8 0)] : List Value).toArray below meth c s.heap [] 0 0 (MQ below (va_Qi (q_L_sent ad nS nB nC nO σ a) (fun σ' => x_U D cs base ad (x_n nS nB nC nO) (x_s nS nB nC nO nS nC) σ') (x_A base)) ([.ref (ad 6 0), .int a, .ref (ad 8 0)] : List Value).toArray s 1 6 (x_A base)) (F0 m 0 ls [])
  refine lv_aload_n hx hb dL_sent_0 rfl (lv_at hl 2 rfl) ?_
  refine lv_iconst (v := 0) hx hb dL_sent_1 (by decide) ?_
  refine lv_aload_n hx hb dL_sent_2 rfl (lv_at hl 0 rfl) ?_
  refine lv_iload_n hx hb dL_sent_3 rfl (lv_at hl 1 rfl) ?_
  refine xc_Xi hc hw 6 0 (c_X6_sent hl0 a hO hO0) rfl rfl (Nat.zero_lt_one) mw_670 mw_667 mw_1 mw_668 mw_669 xd_X6_sent ⟨by decide, by decide⟩ (rfl) hl.1 (Nat.le_of_ble_eq_true rfl) dL_sent_4 ⟨Nat.le_of_ble_eq_true rfl, Nat.le_of_ble_eq_true rfl⟩ (fun E ce q9 H locs hp hw hq1 hq2 hq3 => ?_) (fun r_4 σ_4 H locs hq hw => ?_)
  · obtain ⟨rfl, hpx⟩ := hp
    refine xh_1 hc hw htab rfl (by decide)  mw_234 (by decide +kernel) hq1 hq2 hq3 ?_
    refine lv_astore_n (lv' := [(3, .ref q9), (0, .ref (ad 6 0)), (1, .int a), (2, .ref (ad 8 0))]) hx hb dL_sent_12 rfl hl (by decide) rfl (fun ls hl => ?_)
    refine lv_iconst (v := 1) hx hb dL_sent_13 (by decide) ?_
    exact xr_i hc hlocks hr rfl hw (Or.inr ⟨rfl, ⟨rfl, hpx⟩, rfl⟩) (Nat.le_of_ble_eq_true rfl) (Nat.le_of_ble_eq_true rfl) dL_sent_14
  have hq_4 := hq
  refine lv_i2l hx hb dL_sent_7 rfl ?_
  refine xl_st (j := 0) hc hw (Nat.zero_lt_one) rfl (by decide) dL_sent_8 (fun H locs hw => ?_)
  refine lv_goto (tgt := 15) hx hb dL_sent_9 (by decide) ?_
  refine lv_iconst (v := 0) hx hb dL_sent_15 (by decide) ?_
  exact xr_i hc hlocks hr rfl hw (Or.inl ⟨rfl, r_4, σ_4, hq_4, rfl⟩) (Nat.le_of_ble_eq_true rfl) (Nat.le_of_ble_eq_true rfl) dL_sent_16
/-- L_count -/
def q_L_count (ad : Nat → Nat → Nat) (nS nB nC nO : Nat) (σ : x_St) (a : Int32) : Int32 → x_St → Prop := fun k u => (k = 0 ∧ ∃ (r : Int32) (σ' : x_St), q_X6_count σ a r σ' ∧ u = x_up σ' 8 0 0 r) ∨ (k = 1 ∧ (fun E => E = x_nse ∧ ¬ (0 ≤ a ∧ a ≤ 6)) x_nse ∧ u = σ)
set_option maxHeartbeats 4000000 in
set_option maxRecDepth 100000 in
theorem c_L_count {l : Launch} {D : va_G} {cs : Nat → ClassId} {base : Nat} {ad : Nat → Nat → Nat} {nS nB nC nO : Nat} {σ : x_St} (hl0 : l.stackTraces = false) (a : Int32) : x_Wi l yL_count cL_count 4 (some .int) [(0, 9, 12, 13)] 84 1 6 D cs base ad (x_n nS nB nC nO) (x_s nS nB nC nO nS nC) σ [.ref (ad 6 0), .int a, .ref (ad 8 0)] (q_L_count ad nS nB nC nO σ a) (fun σ' => x_U D cs base ad (x_n nS nB nC nO) (x_s nS nB nC nO nS nC) σ') := by
  refine va_MetW (cc := cL_count) (maxL := 4) (ret := some .int) (hh := [(0, 9, 12, 13)]) (by decide) rfl ?_
  intro p e s m args below meth c s₁ B hml hv
  obtain ⟨rfl, hU⟩ := hv
  have hx := B.exec
  have hb := B.bytes
  have hr := B.returns
  have hts := atoms_spec (ws := Cond.codeWith yL_count cL_count 4 (some .int) [(0, 9, 12, 13)] :: Tw) B.pre
  have htab := vx_table (x := yL_count) B (hts _ List.mem_cons_self)
  have hown : s.vm.findClass RL = some m.cls := findClass_of_methodNamed B.named
  have hlocks := B.notSynchronized
  have hc : CallFix p m c cL_count 4 s (([.ref (ad 6 0), .int a, .ref (ad 8 0)] : List Value).toArray) Tw RL := ⟨hx, hb, hml, hown, fun w hw => hts w (List.mem_cons_of_mem _ hw)⟩
  have hw := x_B.start hU
  have hl := lv_entry ([.ref (ad 6 0), .int a, .ref (ad 8 0)]) (n := 4) (Nat.le_of_ble_eq_true rfl)
  rw [lg_entry_eq]
  generalize (lg_sl ([.ref (ad 6 0), .int a, .ref (ad 8 0)]) ++ List.replicate (4 - (lg_sl ([.ref (ad 6 0), .int a, .ref (ad 8 0)])).length) Slot.unset).toArray = ls at hl ⊢
  have hl : lv_has ls 4 [(0, .ref (ad 6 0)), (1, .int a), (2, .ref (ad 8 0))] := hl
  show W p l e (x_rm 84 1 6) s m ([.ref (ad 6 0), .int a, .ref (ad 8 0)] : List Value).toArray below meth c s.heap [] 0 0 (MQ below (va_Qi (q_L_count ad nS nB nC nO σ a) (fun σ' => x_U D cs base ad (x_n nS nB nC nO) (x_s nS nB nC nO nS nC) σ') (x_A base)) ([.ref (ad 6 0), .int a, .ref (ad 8 0)] : List Value).toArray s 1 6 (x_A base)) (F0 m 0 ls [])
  refine lv_aload_n hx hb dL_count_0 rfl (lv_at hl 2 rfl) ?_
  refine lv_iconst (v := 0) hx hb dL_count_1 (by decide) ?_
  refine lv_aload_n hx hb dL_count_2 rfl (lv_at hl 0 rfl) ?_
  refine lv_iload_n hx hb dL_count_3 rfl (lv_at hl 1 rfl) ?_
  refine xc_Xi hc hw 6 0 (c_X6_count hl0 a) rfl rfl (Nat.zero_lt_one) mw_678 mw_675 mw_1 mw_676 mw_677 xd_X6_count ⟨by decide, by decide⟩ (rfl) hl.1 (Nat.le_of_ble_eq_true rfl) dL_count_4 ⟨Nat.le_of_ble_eq_true rfl, Nat.le_of_ble_eq_true rfl⟩ (fun E ce q9 H locs hp hw hq1 hq2 hq3 => ?_) (fun r_4 σ_4 H locs hq hw => ?_)
  · obtain ⟨rfl, hpx⟩ := hp
    refine xh_1 hc hw htab rfl (by decide)  mw_234 (by decide +kernel) hq1 hq2 hq3 ?_
    refine lv_astore_n (lv' := [(3, .ref q9), (0, .ref (ad 6 0)), (1, .int a), (2, .ref (ad 8 0))]) hx hb dL_count_12 rfl hl (by decide) rfl (fun ls hl => ?_)
    refine lv_iconst (v := 1) hx hb dL_count_13 (by decide) ?_
    exact xr_i hc hlocks hr rfl hw (Or.inr ⟨rfl, ⟨rfl, hpx⟩, rfl⟩) (Nat.le_of_ble_eq_true rfl) (Nat.le_of_ble_eq_true rfl) dL_count_14
  have hq_4 := hq
  refine lv_i2l hx hb dL_count_7 rfl ?_
  refine xl_st (j := 0) hc hw (Nat.zero_lt_one) rfl (by decide) dL_count_8 (fun H locs hw => ?_)
  refine lv_goto (tgt := 15) hx hb dL_count_9 (by decide) ?_
  refine lv_iconst (v := 0) hx hb dL_count_15 (by decide) ?_
  exact xr_i hc hlocks hr rfl hw (Or.inl ⟨rfl, r_4, σ_4, hq_4, rfl⟩) (Nat.le_of_ble_eq_true rfl) (Nat.le_of_ble_eq_true rfl) dL_count_16
