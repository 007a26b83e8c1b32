section XK
variable {p : Program} {l : Launch} {e : Env} {R : Room} {s : State} {m : MethodId} {args : Array Value} {below : List Frame} {meth : Method} {c : Code} {H : Heap} {locs : List Loc} {cells slots mc ms : Nat}
variable {cc : ByteArray} {nL pc : Nat} {ls : Array Slot} {rest : List Value} {D : va_G} {cs : Nat → ClassId} {base : Nat} {ad : Nat → Nat → Nat} {n st : Nat → Nat} {σ : x_St}
variable {Qc : Array Value → State → Outcome → State → Prop} {px : String → Prop}
theorem xk_words {s : State} {args : Array Value} {L : List Cond} (hts : ∀ w ∈ Tw, w.before args s = true) (hn : ∀ w ∈ x_Nws, va_Nw w s) (h1 : ∀ w ∈ L.filter goodWord, w ∈ lw_tbl) (h2 : ∀ w ∈ L.filter (fun w => !goodWord w), x_isN w = true ∧ w ∈ tables_1) : ∀ w ∈ L, w.before args s = true :=
  vx_hat (B := x_Nws) (fun w h => hts w (List.mem_filter.mpr ⟨h1 w h, (List.mem_filter.mp h).2⟩)) (fun w h => List.mem_filter.mpr ⟨(h2 w h).2, (h2 w h).1⟩) (fun w h => va_Nw.use (x_Nws_on (List.mem_filter.mp h).2) (hn w h))
theorem xk_end (hw : x_B D cs base ad n st σ s H locs) {E : String} (hp : px E) : ∀ t : State, s.vm.Alike t.vm → H.size ≤ t.heap.size → (∀ q : Nat, q < H.size → t.heap[q]? = H[q]?) → x_XC D cs base ad n st σ px E s t := by
  intro t hal hz hq
  refine ⟨hp, ⟨fun k i hi => ⟨?_, (hw.2.1.1 k i hi).2⟩, hw.2.1.2⟩, Nat.le_trans hw.2.2.1.1 hz, fun q h1 h2 => ?_⟩
  · have h := (hw.2.1.1 k i hi).1
    exact h.kept (hq _ h.lt)
  · rw [hq q (Nat.lt_of_lt_of_le h1 hw.2.2.1.1)]
    exact hw.2.2.1.2.1 q h1 h2
/-- throw new NoSuchElementException("..") -/
theorem xk_N (hl : l.stackTraces = false) (hc : CallFix p m c cc nL s args Tw RX6) (hout : ∀ x ∈ c.exceptionTable.toList, False) (hlocks : meth.locks = false) (hw : x_B D cs base ad n st σ s H locs) {is : Nat} {text : String} (hstr : (RX6, is, text) ∈ x_Strs) (hp : px x_nse)
    (d0 : decode cc pc = .ok (.new 101, 3)) (d3 : decode cc (pc + 3) = .ok (.dup, 1)) (d4 : decode cc (pc + 4) = .ok (.ldc is, 2)) (d6 : decode cc (pc + 6) = .ok (.invokespecial 105, 3)) (d9 : decode cc (pc + 9) = .ok (.athrow, 1))
    (hsz : ls.size = nL) (hR : 5 < R.frames ∧ (rest.map fun v => v.category).sum + 82 ≤ R.locals ∧ cells + 1 ≤ R.cells ∧ slots + 6 ≤ R.slots) (h1 : cells + 1 ≤ mc) (h2 : slots + 6 ≤ ms) :
    W p l e R s m args below meth c H locs cells slots (vx_MQ below Qc (x_XC D cs base ad n st σ px) args s mc ms (x_A base)) (F0 m pc ls rest) := by
  obtain ⟨sa, hsa⟩ := hw.2.2.2.2.2.2.2.2.2.1 _ hstr
  exact xt_throwS (bx := x_bN) (sY := x_sup) (r := x_exc) (ix := 13) (A := x_A base) hc.1 hc.2.1 hl hc.2.2.2.1 (by decide +kernel) (by decide +kernel) (by decide +kernel) x_bN0 x_bN1 x_bN2 x_bN5 (hc.2.2.2.2 _ mw_243) (hc.2.2.2.2 _ mw_9) hsa (xk_words hc.2.2.2.2 hw.2.2.2.2.2.2.2.2.1 x_atN_in x_atN_no) x_atN_ot hw.2.2.2.2.2.2.1 hw.2.2.2.2.2.2.2.1 hw.2.2.1 (hsz.trans hc.2.2.1.symm) d0 d3 d4 d6 d9 (fun x hx => (hout x hx).elim) hR.1 hR.2.1 hR.2.2.1 hR.2.2.2 hlocks (xk_end hw hp) hw.2.2.1.2.2 h1 h2
theorem xk_NW (hl : l.stackTraces = false) (hc : CallFix p m c cc nL s args Tw RX6) (hout : ∀ x ∈ c.exceptionTable.toList, False) (hlocks : meth.locks = false) (hw : x_B D cs base ad n st σ s H locs) {is : Nat} {text : String} (hstr : (RX6, is, text) ∈ x_Strs) (hp : px x_nse)
    (d0 : decode cc pc = .ok (.new 101, 3)) (d3 : decode cc (pc + 3) = .ok (.dup, 1)) (d4 : decode cc (pc + 4) = .ok (.ldc_w is, 3)) (d7 : decode cc (pc + 7) = .ok (.invokespecial 105, 3)) (d10 : decode cc (pc + 10) = .ok (.athrow, 1))
    (hsz : ls.size = nL) (hR : 5 < R.frames ∧ (rest.map fun v => v.category).sum + 82 ≤ R.locals ∧ cells + 1 ≤ R.cells ∧ slots + 6 ≤ R.slots) (h1 : cells + 1 ≤ mc) (h2 : slots + 6 ≤ ms) :
    W p l e R s m args below meth c H locs cells slots (vx_MQ below Qc (x_XC D cs base ad n st σ px) args s mc ms (x_A base)) (F0 m pc ls rest) := by
  obtain ⟨sa, hsa⟩ := hw.2.2.2.2.2.2.2.2.2.1 _ hstr
  exact xt_throwSW (bx := x_bN) (sY := x_sup) (r := x_exc) (ix := 13) (A := x_A base) hc.1 hc.2.1 hl hc.2.2.2.1 (by decide +kernel) (by decide +kernel) (by decide +kernel) x_bN0 x_bN1 x_bN2 x_bN5 (hc.2.2.2.2 _ mw_243) (hc.2.2.2.2 _ mw_9) hsa (xk_words hc.2.2.2.2 hw.2.2.2.2.2.2.2.2.1 x_atN_in x_atN_no) x_atN_ot hw.2.2.2.2.2.2.1 hw.2.2.2.2.2.2.2.1 hw.2.2.1 (hsz.trans hc.2.2.1.symm) d0 d3 d4 d7 d10 (fun x hx => (hout x hx).elim) hR.1 hR.2.1 hR.2.2.1 hR.2.2.2 hlocks (xk_end hw hp) hw.2.2.1.2.2 h1 h2
/-- throw new IllegalArgumentException("..") -/
theorem xk_I (hl : l.stackTraces = false) (hc : CallFix p m c cc nL s args Tw RX6) (hout : ∀ x ∈ c.exceptionTable.toList, False) (hlocks : meth.locks = false) (hw : x_B D cs base ad n st σ s H locs) {is : Nat} {text : String} (hstr : (RX6, is, text) ∈ x_Strs) (hp : px x_iae)
    (d0 : decode cc pc = .ok (.new 112, 3)) (d3 : decode cc (pc + 3) = .ok (.dup, 1)) (d4 : decode cc (pc + 4) = .ok (.ldc is, 2)) (d6 : decode cc (pc + 6) = .ok (.invokespecial 116, 3)) (d9 : decode cc (pc + 9) = .ok (.athrow, 1))
    (hsz : ls.size = nL) (hR : 5 < R.frames ∧ (rest.map fun v => v.category).sum + 82 ≤ R.locals ∧ cells + 1 ≤ R.cells ∧ slots + 6 ≤ R.slots) (h1 : cells + 1 ≤ mc) (h2 : slots + 6 ≤ ms) :
    W p l e R s m args below meth c H locs cells slots (vx_MQ below Qc (x_XC D cs base ad n st σ px) args s mc ms (x_A base)) (F0 m pc ls rest) := by
  obtain ⟨sa, hsa⟩ := hw.2.2.2.2.2.2.2.2.2.1 _ hstr
  exact xt_throwS (bx := x_bI) (sY := x_sup) (r := x_exc) (ix := 7) (A := x_A base) hc.1 hc.2.1 hl hc.2.2.2.1 (by decide +kernel) (by decide +kernel) (by decide +kernel) x_bI0 x_bI1 x_bI2 x_bI5 (hc.2.2.2.2 _ mw_319) (hc.2.2.2.2 _ mw_10) hsa (xk_words hc.2.2.2.2 hw.2.2.2.2.2.2.2.2.1 x_atI_in x_atI_no) x_atI_ot hw.2.2.2.2.2.2.1 hw.2.2.2.2.2.2.2.1 hw.2.2.1 (hsz.trans hc.2.2.1.symm) d0 d3 d4 d6 d9 (fun x hx => (hout x hx).elim) hR.1 hR.2.1 hR.2.2.1 hR.2.2.2 hlocks (xk_end hw hp) hw.2.2.1.2.2 h1 h2
end XK
