/-! THE CLAIM OUT OF ONE WALK OF THE LAW'S BODY. Your part is whole_start (and what it stands on); all else here is the same for every law, but numbers. -/
def R_law : String := "ButtonWorksLaw"
def lw_P (b : Addr) (xs : List Int32) (args : Array Value) (s : State) : Prop := args = #[.ref b] ∧ s.IntsAt b xs ∧ xs.length ≤ 5120 ∧ (Jvm.Cond.and given_1 narrow_1).before args s = true
def lw_Q (_ : Array Value) (s : State) (o : Outcome) (t : State) : Prop := o = .returned (some (.int 1)) ∧ Framed s o t [] 601024 7293034
def lw_Z (below : List Frame) (a : Array Value) (s : State) : State → Prop := fun t => ∃ o, t.status = .running ∧ Ended t below o ∧ lw_Q a s o t
/-- the law's own end, with 1 on the stack, nothing written that was there before, its room as the claim has it -/
theorem lw_ret {p : Program} {l : Launch} {e : Env} {s : State} {m : MethodId} {below : List Frame} {meth : Method} {c : Code} {b : Nat} (hx : p.tables.exec = Jvm.exec) (hb : c.code = code) (hr : meth.sig.returnType = ret) (hlocks : meth.locks = false) {pc : Nat} {H : Heap} {ls : Array Slot} (hdg : decode code pc = .ok (.ireturn, 1)) : W p l e room_1 s m #[Value.ref b] below meth c H [] 601024 7293034 (lw_Z below #[Value.ref b] s) (F0 m pc ls [.int 1]) := by
  intro T hT X
  obtain ⟨fs, hret, hrun, hended, hW, hframe⟩ := X.leave (v := some (.int 1)) (hlocks := hlocks) (fun h => by rw [hr] at h; cases h)
  have hmeth' : T.vm.method? m = some meth := X.method'
  refine ⟨T.setFrames fs, ?_, .returned (some (.int 1)), hrun, hended, rfl, ⟨_, rfl⟩, hW, hframe⟩
  jvm_step X.here [X.here.top, hx, hb, hdg, hmeth', hr, ret, narrow_b1]
  (try refine ⟨rfl, ?_⟩); (try refine ⟨rfl, ?_⟩)
  first | (intro acts; rw [hret _ acts rfl rfl rfl]) | rw [hret _ _ rfl rfl rfl]
  exact Steps.refl _
/-- what holds at the law's entry: the machine, the code, the tables' words (any of lw_tbl by 'hts w (by decide +kernel)'), the script of L ints xs at the cell b, what the Statement gives of the start (any of its parts by flat_of_before) -/
def lw_At (p : Program) (s : State) (m : MethodId) (meth : Method) (c : Code) (b L : Nat) (xs : Nat → Int32) : Prop :=
  p.tables.exec = Jvm.exec ∧ c.code = code ∧ meth.sig.returnType = ret ∧ c.maxLocals = 7 ∧ s.vm.findClass R_law = some m.cls ∧ (∀ w ∈ lw_tbl, w.before #[Value.ref b] s = true) ∧ va_X b L xs s s.heap ∧ b < s.heap.size ∧ meth.locks = false ∧ (Jvm.Cond.and given_1 narrow_1).before #[Value.ref b] s = true

theorem x_lend {t L : Nat} (hL : L ≤ 5120) (ht : t ≤ 512) (h : ¬ nI L - 10 < nI (10 * t)) : 10 * t + 10 ≤ L := by
  rcases Nat.lt_or_ge L 10 with q | q
  · exfalso
    apply h
    have h0 : nI 0 ≤ nI (10 * t) := (nI_leI (by decide) (by omega)).mpr (Nat.zero_le _)
    refine Int32.lt_of_lt_of_le ?_ h0
    have : L = 0 ∨ L = 1 ∨ L = 2 ∨ L = 3 ∨ L = 4 ∨ L = 5 ∨ L = 6 ∨ L = 7 ∨ L = 8 ∨ L = 9 := by omega
    rcases this with rfl | rfl | rfl | rfl | rfl | rfl | rfl | rfl | rfl | rfl <;> decide
  · have e : nI L - 10 = nI (L - 10) := pk_sub (a := L) (b := 10) q
    rw [e] at h
    have := mt (nI_ltI (a := L - 10) (b := 10 * t) (by omega) (by omega)).mpr h
    omega
set_option maxHeartbeats 4000000 in
set_option maxRecDepth 100000 in
theorem lw_loop {p : Program} {l : Launch} {e : Env} {s : State} {m : MethodId} {below : List Frame} {meth : Method} {c : Code} {b L : Nat} {xs : Nat → Int32} {D : va_G} {cs : Nat → ClassId} {c0 s0 : Nat} (hl0 : l.stackTraces = false) (hx : p.tables.exec = Jvm.exec) (hb : c.code = cL_law) (hr : meth.sig.returnType = ret) (hlocks : meth.locks = false) (hc : CallFix p m c cL_law 7 s #[Value.ref b] Tw RL) (hX_b : va_X b L xs s s.heap) (hX2_b : b < s.heap.size) (hL : L ≤ 5120) (hc0 : c0 + 40 * 513 ≤ 601024) (hs0 : s0 + 400 * 513 ≤ 7293034) :
    ∀ (n t : Nat) (ad : Nat → Nat → Nat) (nS nB nC nO : Nat) (σ : x_St) (H : Heap) (locs : List Loc) (ls : Array Slot), 512 - t < n → t ≤ 512 → Rl σ nS nB nC nO t → lv_has ls 7 [(0, .ref b), (1, .ref (ad 6 0)), (2, .ref (ad 7 0)), (3, .ref (ad 8 0)), (4, .int (nI (10 * t)))] → x_B D cs s.heap.size ad (x_n nS nB nC nO) (x_s nS nB nC nO nS nC) σ s H locs → W p l e room_1 s m #[Value.ref b] below meth c H locs (c0 + 40 * t) (s0 + 400 * t) (lw_Z below #[Value.ref b] s) (F0 m 23 ls []) := by
  intro n
  induction n with
  | zero => intro t ad nS nB nC nO σ H locs ls h; exact absurd h (Nat.not_lt_zero _)
  | succ n ih =>
    intro t ad nS nB nC nO σ H locs ls hn ht hR hl hw
    refine lv_iload hx hb dL_law_23 (lv_at hl 4 rfl) ?_
    refine lv_aload_n hx hb dL_law_25 rfl (lv_at hl 0 rfl) ?_
    refine va_slen (A := fun q => s.heap.size ≤ q) hx hb hX_b hX2_b (Nat.not_le.mpr hX2_b) hw.2.2.1 dL_law_26 ?_
    refine lv_bipush (v := 10) hx hb dL_law_27 (by decide) ?_
    refine lv_isub hx hb dL_law_29 ?_
    refine lv_icmp_gt (tgt := 1608) hx hb dL_law_30 (by decide) (fun h30 => ?_) (fun h30 => ?_)
    · refine lv_iconst (v := 1) hx hb dL_law_1608 (by decide) ?_
      refine va_forget (fun q hq => hw.2.2.1.2.2 q hq) ?_
      refine W.widen (k := 601024) (n := 7293034) (by omega) (by omega) ?_
      exact lw_ret hx hb hr hlocks dL_law_1609
    · have hlt : 10 * t + 10 ≤ L := x_lend hL ht h30
      have cut : ∀ (ad' : Nat → Nat → Nat) (nS nB nC nO : Nat) (σ' : x_St), Rl σ' nS nB nC nO (t + 1) → ∀ (H : Heap) (locs : List Loc) (ls : Array Slot), lv_has ls 7 [(0, .ref b), (1, .ref (ad' 6 0)), (2, .ref (ad' 7 0)), (3, .ref (ad' 8 0)), (4, .int (nI (10 * t)))] → x_B D cs s.heap.size ad' (x_n nS nB nC nO) (x_s nS nB nC nO nS nC) σ' s H locs → W p l e room_1 s m #[Value.ref b] below meth c H locs (c0 + 40 * t + 40) (s0 + 400 * t + 400) (lw_Z below #[Value.ref b] s) (F0 m 1602 ls []) := by
        intro ad' nS nB nC nO σ' hR' H locs ls hl hw
        refine lv_iinc (v := nI (10 * (t + 1))) (lv' := [(4, .int (nI (10 * (t + 1)))), (0, .ref b), (1, .ref (ad' 6 0)), (2, .ref (ad' 7 0)), (3, .ref (ad' 8 0))]) hx hb dL_law_1602 hl (k := 4) rfl (by rw [show 10 * (t + 1) = 10 * t + 10 by omega]; exact nI_add (10 * t) 10) (by decide) rfl (fun ls hl => ?_)
        refine lv_goto (tgt := 23) hx hb dL_law_1605 (by decide) ?_
        exact ih (t + 1) ad' nS nB nC nO σ' H locs ls (by omega) (by omega) hR' (lv_sub hl [1, 2, 3, 4, 0] rfl) hw
      refine lv_aload_n hx hb dL_law_33 rfl (lv_at hl 0 rfl) ?_
      refine lv_iload hx hb dL_law_34 (lv_at hl 4 rfl) ?_
      refine xs_ld (j := 10 * t) hc hw hX_b hX2_b rfl (by omega) (by omega) dL_law_36 ?_
      refine lv_bipush (v := 31) hx hb dL_law_37 (by decide) ?_
      refine lv_iand hx hb dL_law_39 ?_
      rcases x_sw (xs (10 * t) &&& 31) 20 (by decide) with hsw | ⟨jsw, hjsw, hsw⟩
      · refine lv_tableOut (tgt := 1602) hx hb dL_law_40 (x_swo hsw) (by decide) ?_
        refine W.widen (k := c0 + 40 * t + 40) (n := s0 + 400 * t + 400) (by omega) (by omega) ?_
        exact cut ad nS nB nC nO σ hR.up H locs ls hl hw
      · rcases (by omega : jsw = 0 ∨ jsw = 1 ∨ jsw = 2 ∨ jsw = 3 ∨ jsw = 4 ∨ jsw = 5 ∨ jsw = 6 ∨ jsw = 7 ∨ jsw = 8 ∨ jsw = 9 ∨ jsw = 10 ∨ jsw = 11 ∨ jsw = 12 ∨ jsw = 13 ∨ jsw = 14 ∨ jsw = 15 ∨ jsw = 16 ∨ jsw = 17 ∨ jsw = 18 ∨ jsw = 19) with rfl | rfl | rfl | rfl | rfl | rfl | rfl | rfl | rfl | rfl | rfl | rfl | rfl | rfl | rfl | rfl | rfl | rfl | rfl | rfl
        · refine lv_tableIn (tgt := 136) (off := 96) hx hb dL_law_40 (x_swl hsw) (x_swh hsw (by decide)) (by rw [x_swn hsw (by decide)]; rfl) (by decide) ?_
          exact lc_shell hl0 hx hb hc hX_b hX2_b hL hlt (by omega) (by omega) hR hl hw cut
        · refine lv_tableIn (tgt := 265) (off := 225) hx hb dL_law_40 (x_swl hsw) (x_swh hsw (by decide)) (by rw [x_swn hsw (by decide)]; rfl) (by decide) ?_
          exact lc_shellOf hl0 hx hb hc hX_b hX2_b hL hlt (by omega) (by omega) hR hl hw cut
        · refine lv_tableIn (tgt := 333) (off := 293) hx hb dL_law_40 (x_swl hsw) (x_swh hsw (by decide)) (by rw [x_swn hsw (by decide)]; rfl) (by decide) ?_
          exact lc_list hl0 hx hb hc hX_b hX2_b hL hlt (by omega) (by omega) hR hl hw cut
        · refine lv_tableIn (tgt := 413) (off := 373) hx hb dL_law_40 (x_swl hsw) (x_swh hsw (by decide)) (by rw [x_swn hsw (by decide)]; rfl) (by decide) ?_
          exact lc_best hl0 hx hb hc hX_b hX2_b hL hlt (by omega) (by omega) hR hl hw cut
        · refine lv_tableIn (tgt := 481) (off := 441) hx hb dL_law_40 (x_swl hsw) (x_swh hsw (by decide)) (by rw [x_swn hsw (by decide)]; rfl) (by decide) ?_
          exact lc_bestAt hl0 hx hb hc hX_b hX2_b hL hlt (by omega) (by omega) hR hl hw cut
        · refine lv_tableIn (tgt := 549) (off := 509) hx hb dL_law_40 (x_swl hsw) (x_swh hsw (by decide)) (by rw [x_swn hsw (by decide)]; rfl) (by decide) ?_
          exact lc_cut hl0 hx hb hc hX_b hX2_b hL hlt (by omega) (by omega) hR hl hw cut
        · refine lv_tableIn (tgt := 605) (off := 565) hx hb dL_law_40 (x_swl hsw) (x_swh hsw (by decide)) (by rw [x_swn hsw (by decide)]; rfl) (by decide) ?_
          exact lc_button hl0 hx hb hc hX_b hX2_b hL hlt (by omega) (by omega) hR hl hw cut
        · refine lv_tableIn (tgt := 673) (off := 633) hx hb dL_law_40 (x_swl hsw) (x_swh hsw (by decide)) (by rw [x_swn hsw (by decide)]; rfl) (by decide) ?_
          exact lc_stands hl0 hx hb hc hX_b hX2_b hL hlt (by omega) (by omega) hR hl hw cut
        · refine lv_tableIn (tgt := 741) (off := 701) hx hb dL_law_40 (x_swl hsw) (x_swh hsw (by decide)) (by rw [x_swn hsw (by decide)]; rfl) (by decide) ?_
          exact lc_work hl0 hx hb hc hX_b hX2_b hL hlt (by omega) (by omega) hR hl hw cut
        · refine lv_tableIn (tgt := 821) (off := 781) hx hb dL_law_40 (x_swl hsw) (x_swh hsw (by decide)) (by rw [x_swn hsw (by decide)]; rfl) (by decide) ?_
          exact lc_works hl0 hx hb hc hX_b hX2_b hL hlt (by omega) (by omega) hR hl hw cut
        · refine lv_tableIn (tgt := 913) (off := 873) hx hb dL_law_40 (x_swl hsw) (x_swh hsw (by decide)) (by rw [x_swn hsw (by decide)]; rfl) (by decide) ?_
          exact lc_grind hl0 hx hb hc hX_b hX2_b hL hlt (by omega) (by omega) hR hl hw cut
        · refine lv_tableIn (tgt := 969) (off := 929) hx hb dL_law_40 (x_swl hsw) (x_swh hsw (by decide)) (by rw [x_swn hsw (by decide)]; rfl) (by decide) ?_
          exact lc_machine hl0 hx hb hc hX_b hX2_b hL hlt (by omega) (by omega) hR hl hw cut
        · refine lv_tableIn (tgt := 1037) (off := 997) hx hb dL_law_40 (x_swl hsw) (x_swh hsw (by decide)) (by rw [x_swn hsw (by decide)]; rfl) (by decide) ?_
          exact lc_bleach hl0 hx hb hc hX_b hX2_b hL hlt (by omega) (by omega) hR hl hw cut
        · refine lv_tableIn (tgt := 1105) (off := 1065) hx hb dL_law_40 (x_swl hsw) (x_swh hsw (by decide)) (by rw [x_swn hsw (by decide)]; rfl) (by decide) ?_
          exact lc_card hl0 hx hb hc hX_b hX2_b hL hlt (by omega) (by omega) hR hl hw cut
        · refine lv_tableIn (tgt := 1197) (off := 1157) hx hb dL_law_40 (x_swl hsw) (x_swh hsw (by decide)) (by rw [x_swn hsw (by decide)]; rfl) (by decide) ?_
          exact lc_cardOf hl0 hx hb hc hX_b hX2_b hL hlt (by omega) (by omega) hR hl hw cut
        · refine lv_tableIn (tgt := 1265) (off := 1225) hx hb dL_law_40 (x_swl hsw) (x_swh hsw (by decide)) (by rw [x_swn hsw (by decide)]; rfl) (by decide) ?_
          exact lc_onCard hl0 hx hb hc hX_b hX2_b hL hlt (by omega) (by omega) hR hl hw cut
        · refine lv_tableIn (tgt := 1333) (off := 1293) hx hb dL_law_40 (x_swl hsw) (x_swh hsw (by decide)) (by rw [x_swn hsw (by decide)]; rfl) (by decide) ?_
          exact lc_order hl0 hx hb hc hX_b hX2_b hL hlt (by omega) (by omega) hR hl hw cut
        · refine lv_tableIn (tgt := 1434) (off := 1394) hx hb dL_law_40 (x_swl hsw) (x_swh hsw (by decide)) (by rw [x_swn hsw (by decide)]; rfl) (by decide) ?_
          exact lc_send hl0 hx hb hc hX_b hX2_b hL hlt (by omega) (by omega) hR hl hw cut
        · refine lv_tableIn (tgt := 1490) (off := 1450) hx hb dL_law_40 (x_swl hsw) (x_swh hsw (by decide)) (by rw [x_swn hsw (by decide)]; rfl) (by decide) ?_
          exact lc_sent hl0 hx hb hc hX_b hX2_b hL hlt (by omega) (by omega) hR hl hw cut
        · refine lv_tableIn (tgt := 1546) (off := 1506) hx hb dL_law_40 (x_swl hsw) (x_swh hsw (by decide)) (by rw [x_swn hsw (by decide)]; rfl) (by decide) ?_
          exact lc_count hl0 hx hb hc hX_b hX2_b hL hlt (by omega) (by omega) hR hl hw cut
