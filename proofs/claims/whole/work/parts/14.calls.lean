/-! contracts over the world, calls, returns, throws -/
abbrev x_A (base : Nat) : Nat → Prop := fun q => base ≤ q
/-- a method that answers an int -/
abbrev x_Ci (l : Launch) (y : MethodName) (cc : ByteArray) (nL : Nat) (ret : Option FieldType) (d mc ms : Nat) (D : va_G) (cs : Nat → ClassId) (base : Nat) (ad : Nat → Nat → Nat) (n st : Nat → Nat) (σ : x_St) (av : List Value) {S : Type} (post : Int32 → S → Prop) (B : S → State → Prop) : Prop :=
  Met l y (Cond.code y cc nL ret :: Tw) (x_rm d mc ms) (va_Pc av (x_U D cs base ad n st σ)) (va_Qi post B (x_A base)) mc ms (x_A base)
abbrev x_Cv (l : Launch) (y : MethodName) (cc : ByteArray) (nL : Nat) (d mc ms : Nat) (D : va_G) (cs : Nat → ClassId) (base : Nat) (ad : Nat → Nat → Nat) (n st : Nat → Nat) (σ : x_St) (av : List Value) {S : Type} (post : S → Prop) (B : S → State → Prop) : Prop :=
  Met l y (Cond.code y cc nL none :: Tw) (x_rm d mc ms) (va_Pc av (x_U D cs base ad n st σ)) (va_Qv post B (x_A base)) mc ms (x_A base)
/-- what stands where a method has thrown: nothing has changed -/
abbrev x_XC (D : va_G) (cs : Nat → ClassId) (base : Nat) (ad : Nat → Nat → Nat) (n st : Nat → Nat) (σ : x_St) (px : String → Prop) : String → State → State → Prop :=
  fun E st0 t => px E ∧ x_H D cs base ad n st σ t.heap ∧ va_F (x_A base) st0 t
abbrev x_Xi (l : Launch) (y : MethodName) (cc : ByteArray) (nL : Nat) (ret : Option FieldType) (d mc ms : Nat) (D : va_G) (cs : Nat → ClassId) (base : Nat) (ad : Nat → Nat → Nat) (n st : Nat → Nat) (σ : x_St) (av : List Value) {S : Type} (post : Int32 → S → Prop) (B : S → State → Prop) (px : String → Prop) : Prop :=
  vx_Met l y (Cond.code y cc nL ret :: Tw) (x_rm d mc ms) (va_Pc av (x_U D cs base ad n st σ)) (va_Qi post B (x_A base)) (x_XC D cs base ad n st σ px) mc ms (x_A base)
/-- .. that answers the reference of a kind k, by an index -/
abbrev x_Xr (l : Launch) (y : MethodName) (cc : ByteArray) (nL : Nat) (ret : Option FieldType) (d mc ms : Nat) (D : va_G) (cs : Nat → ClassId) (base : Nat) (ad : Nat → Nat → Nat) (n st : Nat → Nat) (σ : x_St) (av : List Value) (k : Nat) (post : Nat → Prop) (px : String → Prop) : Prop :=
  vx_Met l y (Cond.code y cc nL ret :: Tw) (x_rm d mc ms) (va_Pc av (x_U D cs base ad n st σ)) (va_Qr post (fun i a t => a = ad k i ∧ x_U D cs base ad n st σ t) (x_A base)) (x_XC D cs base ad n st σ px) mc ms (x_A base)
theorem x_nb {v : Int32} (h : v = 0 ∨ v = 1) : narrow .boolean (.int v) = .int v := by
  rcases h with rfl | rfl <;> rfl
theorem x_fb {v : Int32} (h : v = 0 ∨ v = 1) : fits .boolean (.int v) = true := by
  rcases h with rfl | rfl <;> rfl
section XC
variable {p : Program} {l : Launch} {e : Env} {R : Room} {s : State} {m : MethodId} {args : Array Value} {below : List Frame} {meth : Method} {c : Code} {H : Heap} {locs : List Loc} {cells slots : Nat} {Q : State → Prop}
variable {cc : ByteArray} {nL pc : Nat} {own : String} {ls : Array Slot} {rest : List Value} {D : va_G} {cs : Nat → ClassId} {base : Nat} {ad : Nat → Nat → Nat} {n st : Nat → Nat} {σ : x_St}
theorem x_blind {av : List Value} : FrameBlind (va_Pc av (x_U D cs base ad n st σ)) := fun a U g mk q => ⟨q.1, x_U.calling g mk a q.2⟩
theorem x_preS (hw : x_B D cs base ad n st σ s H locs) (av : List Value) : PreS s H (va_Pc av (x_U D cs base ad n st σ)) av := ⟨x_blind, fun U hU hW => ⟨rfl, hw.toU hU hW⟩⟩
theorem x_recv (hw : x_B D cs base ad n st σ s H locs) {k i : Nat} {q : vw_C} (hkd : x_kd k = 0) (hi : i < n k) (hcl : vwCl[k]? = some q) : ∃ cellB : Cell, H[ad k i]? = some cellB ∧ cellB.vm.isStatics = false ∧ s.vm.findClass q.1 = some cellB.cls :=
  va_recv hw.1 (hw.one hi (e := .inr (k, x_fs ad st σ k i)) (by simp [x_E, hkd])) (ci := k) (q0 := 0) hcl rfl
theorem x_preV (hw : x_B D cs base ad n st σ s H locs) {k i : Nat} {q : vw_C} (As : List Value) (hkd : x_kd k = 0) (hi : i < n k) (hcl : vwCl[k]? = some q) : PreV s H q.1 (ad k i) (va_Pc (.ref (ad k i) :: As) (x_U D cs base ad n st σ)) As :=
  ⟨x_blind, x_recv hw hkd hi hcl, fun U hU hW => ⟨rfl, hw.toU hU hW⟩⟩
/-- what a call of a method of ours needs of the tables and the room -/
abbrev x_cd (y : MethodName) (k : Nat) : Prop := y.cls ≠ "java/lang/invoke/MethodHandle" ∧ y.cls ≠ "java/lang/invoke/VarHandle" ∧ (parseMethodDescriptor y.desc).map (fun d => d.parameters.length) = some k
variable {y : MethodName} {cc' : ByteArray} {nL' d mc ms index np : Nat} {ret : Option FieldType}
theorem x_cb (hc : CallFix p m c cc nL s args Tw own) (hcode : Cond.code y cc' nL' ret ∈ Tw) (hlink : Cond.methodLink own index y ∈ Tw) (hini : Cond.initialized y.cls ∈ Tw) (hd : x_cd y np) (hR : d + 1 ≤ R.frames ∧ 8 + (nL' + 11) + 40 * d ≤ R.locals) :
    CallB R s args own index y cc' nL' ret (Cond.code y cc' nL' ret :: Tw) (x_rm d mc ms) mc ms np :=
  callB_of np hc.2.2.2.2 (x_good hcode) rfl rfl rfl (hc.2.2.2.2 _ hini) (hc.2.2.2.2 _ hlink) hd hR
theorem x_cv (hc : CallFix p m c cc nL s args Tw own) {C : String} (hcode : Cond.code y cc' nL' ret ∈ Tw) (hlink : Cond.methodLink own index y ∈ Tw) (hini : Cond.initialized y.cls ∈ Tw) (hins : Cond.instanceMethod y ∈ Tw) (hsel : Cond.selects C y y ∈ Tw) (hd : x_cd y np) (hR : d + 1 ≤ R.frames ∧ 8 + (nL' + 11) + 40 * d ≤ R.locals) :
    CallW R s args own C index y cc' nL' ret (Cond.code y cc' nL' ret :: Tw) (x_rm d mc ms) mc ms np :=
  ⟨x_cb hc hcode hlink hini hd hR, hc.2.2.2.2 _ hins, hc.2.2.2.2 _ hsel⟩
variable {S : Type} {fa : S → Nat → Nat → Nat} {fn fs : S → Nat → Nat} {fσ : S → x_St}
/-- a static call, an int -/
theorem xc_Si (hc : CallFix p m c cc nL s args Tw own) (hw : x_B D cs base ad n st σ s H locs) {av : List Value} {post : Int32 → S → Prop} (hM : x_Ci l y cc' nL' ret d mc ms D cs base ad n st σ av post (fun u => x_U D cs base (fa u) (fn u) (fs u) (fσ u)))
    (hcode : Cond.code y cc' nL' ret ∈ Tw) (hlink : Cond.methodLink own index y ∈ Tw) (hini : Cond.initialized y.cls ∈ Tw) (hsta : Cond.static y ∈ Tw) (hd : x_cd y av.length) (hR : d + 1 ≤ R.frames ∧ 8 + (nL' + 11) + 40 * d ≤ R.locals) {stk : List Value} (hstk : stk = av.reverse ++ rest)
    (hsz : ls.size = nL) (hcat : (rest.map fun v => v.category).sum ≤ 8) (hdg : decode cc pc = .ok (.invokestatic index, 3)) (hf : cells + mc ≤ R.cells ∧ slots + ms ≤ R.slots)
    (kk : ∀ (r : Int32) (u : S) (H1 : Heap) (locs1 : List Loc), post r u → x_B D cs base (fa u) (fn u) (fs u) (fσ u) s H1 locs1 → W p l e R s m args below meth c H1 locs1 (cells + mc) (slots + ms) Q (F0 m (pc + 3) ls (.int r :: rest))) : W p l e R s m args below meth c H locs cells slots Q (F0 m pc ls stk) := by
  refine va_calli (va_runS (As := av) (rest := rest) hc hM ⟨x_cb hc hcode hlink hini hd hR, hc.2.2.2.2 _ hsta⟩ (x_preS hw av) rfl rfl hsz hstk (by show 2 * 0 + _ ≤ 8; omega) hdg hf) hw.2.2.1 (fun q _ h => h) (fun q h => h) (fun r u t H1 locs1 ht hvm hp hB hz hk hS => ?_)
  exact kk r u H1 locs1 hp (hw.back ht hB hS)
/-- a static call, void -/
theorem xc_Sv (hc : CallFix p m c cc nL s args Tw own) (hw : x_B D cs base ad n st σ s H locs) {av : List Value} {post : S → Prop} (hM : x_Cv l y cc' nL' d mc ms D cs base ad n st σ av post (fun u => x_U D cs base (fa u) (fn u) (fs u) (fσ u)))
    (hcode : Cond.code y cc' nL' none ∈ Tw) (hlink : Cond.methodLink own index y ∈ Tw) (hini : Cond.initialized y.cls ∈ Tw) (hsta : Cond.static y ∈ Tw) (hd : x_cd y av.length) (hR : d + 1 ≤ R.frames ∧ 8 + (nL' + 11) + 40 * d ≤ R.locals) {stk : List Value} (hstk : stk = av.reverse ++ rest)
    (hsz : ls.size = nL) (hcat : (rest.map fun v => v.category).sum ≤ 8) (hdg : decode cc pc = .ok (.invokestatic index, 3)) (hf : cells + mc ≤ R.cells ∧ slots + ms ≤ R.slots)
    (kk : ∀ (u : S) (H1 : Heap) (locs1 : List Loc), post u → x_B D cs base (fa u) (fn u) (fs u) (fσ u) s H1 locs1 → W p l e R s m args below meth c H1 locs1 (cells + mc) (slots + ms) Q (F0 m (pc + 3) ls rest)) : W p l e R s m args below meth c H locs cells slots Q (F0 m pc ls stk) := by
  refine va_callv (va_runS (As := av) (rest := rest) hc hM ⟨x_cb hc hcode hlink hini hd hR, hc.2.2.2.2 _ hsta⟩ (x_preS hw av) rfl rfl hsz hstk (by show 2 * 0 + _ ≤ 8; omega) hdg hf) hw.2.2.1 (fun q _ h => h) (fun q h => h) (fun u t H1 locs1 ht hvm hp hB hz hk hS => ?_)
  exact kk u H1 locs1 hp (hw.back ht hB hS)
/-- a static call of a nest mate's private method, an int -/
theorem xc_Ni (hc : CallFix p m c cc nL s args Tw own) (hw : x_B D cs base ad n st σ s H locs) {av : List Value} {host : String} {post : Int32 → S → Prop} (hM : x_Ci l y cc' nL' ret d mc ms D cs base ad n st σ av post (fun u => x_U D cs base (fa u) (fn u) (fs u) (fσ u)))
    (hcode : Cond.code y cc' nL' ret ∈ Tw) (hlink : Cond.methodLinkNest own index y host ∈ x_Nws) (hini : Cond.initialized y.cls ∈ Tw) (hsta : Cond.static y ∈ Tw) (hd : x_cd y av.length) (hR : d + 1 ≤ R.frames ∧ 8 + (nL' + 11) + 40 * d ≤ R.locals) {stk : List Value} (hstk : stk = av.reverse ++ rest)
    (hsz : ls.size = nL) (hcat : (rest.map fun v => v.category).sum ≤ 8) (hdg : decode cc pc = .ok (.invokestatic index, 3)) (hf : cells + mc ≤ R.cells ∧ slots + ms ≤ R.slots)
    (kk : ∀ (r : Int32) (u : S) (H1 : Heap) (locs1 : List Loc), post r u → x_B D cs base (fa u) (fn u) (fs u) (fσ u) s H1 locs1 → W p l e R s m args below meth c H1 locs1 (cells + mc) (slots + ms) Q (F0 m (pc + 3) ls (.int r :: rest))) : W p l e R s m args below meth c H locs cells slots Q (F0 m pc ls stk) := by
  refine va_calli (va_runSN (As := av) (rest := rest) hc hM ⟨va_cnB av.length hc.2.2.2.2 (x_good hcode) rfl rfl rfl (hw.2.2.2.2.2.2.2.2.1 _ hlink) (hc.2.2.2.2 _ hini) hd hR, hc.2.2.2.2 _ hsta, trivial⟩ (x_preS hw av) rfl rfl hsz hstk (by show 2 * 0 + _ ≤ 8; omega) hdg hf) hw.2.2.1 (fun q _ h => h) (fun q h => h) (fun r u t H1 locs1 ht hvm hp hB hz hk hS => ?_)
  exact kk r u H1 locs1 hp (hw.back ht hB hS)
/-- a virtual call on the object (k, i), an int -/
theorem xc_Vi (hc : CallFix p m c cc nL s args Tw own) (hw : x_B D cs base ad n st σ s H locs) (k i : Nat) {q : vw_C} {av : List Value} {post : Int32 → S → Prop} (hM : x_Ci l y cc' nL' ret d mc ms D cs base ad n st σ (.ref (ad k i) :: av) post (fun u => x_U D cs base (fa u) (fn u) (fs u) (fσ u)))
    (hcl : vwCl[k]? = some q) (hkd : x_kd k = 0) (hi : i < n k)
    (hcode : Cond.code y cc' nL' ret ∈ Tw) (hlink : Cond.methodLink own index y ∈ Tw) (hini : Cond.initialized y.cls ∈ Tw) (hins : Cond.instanceMethod y ∈ Tw) (hsel : Cond.selects q.1 y y ∈ Tw) (hd : x_cd y av.length) (hR : d + 1 ≤ R.frames ∧ 8 + (nL' + 11) + 40 * d ≤ R.locals) {stk : List Value} (hstk : stk = av.reverse ++ .ref (ad k i) :: rest)
    (hsz : ls.size = nL) (hcat : (rest.map fun v => v.category).sum ≤ 8) (hdg : decode cc pc = .ok (.invokevirtual index, 3)) (hf : cells + mc ≤ R.cells ∧ slots + ms ≤ R.slots)
    (kk : ∀ (r : Int32) (u : S) (H1 : Heap) (locs1 : List Loc), post r u → x_B D cs base (fa u) (fn u) (fs u) (fσ u) s H1 locs1 → W p l e R s m args below meth c H1 locs1 (cells + mc) (slots + ms) Q (F0 m (pc + 3) ls (.int r :: rest))) : W p l e R s m args below meth c H locs cells slots Q (F0 m pc ls stk) := by
  refine va_calli (va_runV (As := av) (rest := rest) hc hM (x_cv hc (np := av.length) hcode hlink hini hins hsel hd hR) (x_preV hw av hkd hi hcl) rfl rfl hsz hstk (by show 2 * 0 + _ ≤ 8; omega) hdg hf) hw.2.2.1 (fun q _ h => h) (fun q h => h) (fun r u t H1 locs1 ht hvm hp hB hz hk hS => ?_)
  exact kk r u H1 locs1 hp (hw.back ht hB hS)
/-- a virtual call on the object (k, i), void -/
theorem xc_Vv (hc : CallFix p m c cc nL s args Tw own) (hw : x_B D cs base ad n st σ s H locs) (k i : Nat) {q : vw_C} {av : List Value} {post : S → Prop} (hM : x_Cv l y cc' nL' d mc ms D cs base ad n st σ (.ref (ad k i) :: av) post (fun u => x_U D cs base (fa u) (fn u) (fs u) (fσ u)))
    (hcl : vwCl[k]? = some q) (hkd : x_kd k = 0) (hi : i < n k)
    (hcode : Cond.code y cc' nL' none ∈ Tw) (hlink : Cond.methodLink own index y ∈ Tw) (hini : Cond.initialized y.cls ∈ Tw) (hins : Cond.instanceMethod y ∈ Tw) (hsel : Cond.selects q.1 y y ∈ Tw) (hd : x_cd y av.length) (hR : d + 1 ≤ R.frames ∧ 8 + (nL' + 11) + 40 * d ≤ R.locals) {stk : List Value} (hstk : stk = av.reverse ++ .ref (ad k i) :: rest)
    (hsz : ls.size = nL) (hcat : (rest.map fun v => v.category).sum ≤ 8) (hdg : decode cc pc = .ok (.invokevirtual index, 3)) (hf : cells + mc ≤ R.cells ∧ slots + ms ≤ R.slots)
    (kk : ∀ (u : S) (H1 : Heap) (locs1 : List Loc), post u → x_B D cs base (fa u) (fn u) (fs u) (fσ u) s H1 locs1 → W p l e R s m args below meth c H1 locs1 (cells + mc) (slots + ms) Q (F0 m (pc + 3) ls rest)) : W p l e R s m args below meth c H locs cells slots Q (F0 m pc ls stk) := by
  refine va_callv (va_runV (As := av) (rest := rest) hc hM (x_cv hc (np := av.length) hcode hlink hini hins hsel hd hR) (x_preV hw av hkd hi hcl) rfl rfl hsz hstk (by show 2 * 0 + _ ≤ 8; omega) hdg hf) hw.2.2.1 (fun q _ h => h) (fun q h => h) (fun u t H1 locs1 ht hvm hp hB hz hk hS => ?_)
  exact kk u H1 locs1 hp (hw.back ht hB hS)
/-- a virtual call that may throw, an int; kx: it has thrown -/
theorem xc_Xi (hc : CallFix p m c cc nL s args Tw own) (hw : x_B D cs base ad n st σ s H locs) (k i : Nat) {q : vw_C} {av : List Value} {post : Int32 → S → Prop} {px : String → Prop} (hM : x_Xi l y cc' nL' ret d mc ms D cs base ad n st σ (.ref (ad k i) :: av) post (fun u => x_U D cs base (fa u) (fn u) (fs u) (fσ u)) px)
    (hcl : vwCl[k]? = some q) (hkd : x_kd k = 0) (hi : i < n k)
    (hcode : Cond.code y cc' nL' ret ∈ Tw) (hlink : Cond.methodLink own index y ∈ Tw) (hini : Cond.initialized y.cls ∈ Tw) (hins : Cond.instanceMethod y ∈ Tw) (hsel : Cond.selects q.1 y y ∈ Tw) (hd : x_cd y av.length) (hR : d + 1 ≤ R.frames ∧ 8 + (nL' + 11) + 40 * d ≤ R.locals) {stk : List Value} (hstk : stk = av.reverse ++ .ref (ad k i) :: rest)
    (hsz : ls.size = nL) (hcat : (rest.map fun v => v.category).sum ≤ 8) (hdg : decode cc pc = .ok (.invokevirtual index, 3)) (hf : cells + mc ≤ R.cells ∧ slots + ms ≤ R.slots)
    (kx : ∀ (E : String) (ce : Cell) (q9 : Addr) (H1 : Heap) (locs1 : List Loc), px E → x_B D cs base ad n st σ s H1 locs1 → H1[q9]? = some ce → ce.vm = .none → s.vm.findClass E = some ce.cls → vx_W p l e R s m args below meth c H1 locs1 (cells + mc) (slots + ms) Q (F0 m pc ls rest) q9)
    (kk : ∀ (r : Int32) (u : S) (H1 : Heap) (locs1 : List Loc), post r u → x_B D cs base (fa u) (fn u) (fs u) (fσ u) s H1 locs1 → W p l e R s m args below meth c H1 locs1 (cells + mc) (slots + ms) Q (F0 m (pc + 3) ls (.int r :: rest))) : W p l e R s m args below meth c H locs cells slots Q (F0 m pc ls stk) := by
  have hr := vx_runV (As := av) (rest := rest) (g := F0 m pc ls stk) (below := below) (meth := meth) (H := H) (locs := locs) (cells := cells) (slots := slots) (e := e) hc hM (x_cv hc (np := av.length) hcode hlink hini hins hsel hd hR) (x_preV hw av hkd hi hcl) rfl rfl hsz hstk (by show 2 * 0 + _ ≤ 8; omega) hdg hf
  intro T hT X
  rcases hr T hT X with ⟨v, st₀, t, T', L, h0, X', hL, e1, e2, ⟨⟨r, u, hv, hp, hb⟩, hF⟩, stp⟩ | ⟨q9, st₀, t, T', L, E, ce, h0, X', hL, e1, e2, ⟨hp, hb, hF⟩, hce, hcv, hcl9, stp⟩
  · cases hv
    obtain ⟨k1, k2, k3⟩ := vx_keep h0 e1 hw.2.2.1 (fun q _ h => h) (fun q h => h) hL hF
    obtain ⟨t2, a1, b1⟩ := kk r u T'.heap (locs ++ L) hp (hw.back e1.symm hb k3) T' rfl X'
    exact ⟨t2, stp t2 a1, b1⟩
  · obtain ⟨k1, k2, k3⟩ := vx_keep h0 e1 hw.2.2.1 (fun q _ h => h) (fun q h => h) hL hF
    obtain ⟨t2, a1, b1⟩ := kx E ce q9 T'.heap (locs ++ L) hp ⟨hw.1, by rw [e1]; exact hb, k3, hw.2.2.2⟩ (by rw [e1]; exact hce) hcv hcl9 T' rfl X'
    exact ⟨t2, stp.trans a1, b1⟩
/-- a virtual call that may throw, a reference -/
theorem xc_Xr (hc : CallFix p m c cc nL s args Tw own) (hw : x_B D cs base ad n st σ s H locs) (k i : Nat) {kr : Nat} {q : vw_C} {av : List Value} {post : Nat → Prop} {px : String → Prop} (hM : x_Xr l y cc' nL' ret d mc ms D cs base ad n st σ (.ref (ad k i) :: av) kr post px)
    (hcl : vwCl[k]? = some q) (hkd : x_kd k = 0) (hi : i < n k)
    (hcode : Cond.code y cc' nL' ret ∈ Tw) (hlink : Cond.methodLink own index y ∈ Tw) (hini : Cond.initialized y.cls ∈ Tw) (hins : Cond.instanceMethod y ∈ Tw) (hsel : Cond.selects q.1 y y ∈ Tw) (hd : x_cd y av.length) (hR : d + 1 ≤ R.frames ∧ 8 + (nL' + 11) + 40 * d ≤ R.locals) {stk : List Value} (hstk : stk = av.reverse ++ .ref (ad k i) :: rest)
    (hsz : ls.size = nL) (hcat : (rest.map fun v => v.category).sum ≤ 8) (hdg : decode cc pc = .ok (.invokevirtual index, 3)) (hf : cells + mc ≤ R.cells ∧ slots + ms ≤ R.slots)
    (kx : ∀ (E : String) (ce : Cell) (q9 : Addr) (H1 : Heap) (locs1 : List Loc), px E → x_B D cs base ad n st σ s H1 locs1 → H1[q9]? = some ce → ce.vm = .none → s.vm.findClass E = some ce.cls → vx_W p l e R s m args below meth c H1 locs1 (cells + mc) (slots + ms) Q (F0 m pc ls rest) q9)
    (kk : ∀ (j : Nat) (H1 : Heap) (locs1 : List Loc), post j → x_B D cs base ad n st σ s H1 locs1 → W p l e R s m args below meth c H1 locs1 (cells + mc) (slots + ms) Q (F0 m (pc + 3) ls (.ref (ad kr j) :: rest))) : W p l e R s m args below meth c H locs cells slots Q (F0 m pc ls stk) := by
  have hr := vx_runV (As := av) (rest := rest) (g := F0 m pc ls stk) (below := below) (meth := meth) (H := H) (locs := locs) (cells := cells) (slots := slots) (e := e) hc hM (x_cv hc (np := av.length) hcode hlink hini hins hsel hd hR) (x_preV hw av hkd hi hcl) rfl rfl hsz hstk (by show 2 * 0 + _ ≤ 8; omega) hdg hf
  intro T hT X
  rcases hr T hT X with ⟨v, st₀, t, T', L, h0, X', hL, e1, e2, ⟨⟨j, a9, hv, hp, ⟨rfl, hb⟩⟩, hF⟩, stp⟩ | ⟨q9, st₀, t, T', L, E, ce, h0, X', hL, e1, e2, ⟨hp, hb, hF⟩, hce, hcv, hcl9, stp⟩
  · cases hv
    obtain ⟨k1, k2, k3⟩ := vx_keep h0 e1 hw.2.2.1 (fun q _ h => h) (fun q h => h) hL hF
    obtain ⟨t2, a1, b1⟩ := kk j T'.heap (locs ++ L) hp (hw.back e1.symm hb k3) T' rfl X'
    exact ⟨t2, stp t2 a1, b1⟩
  · obtain ⟨k1, k2, k3⟩ := vx_keep h0 e1 hw.2.2.1 (fun q _ h => h) (fun q h => h) hL hF
    obtain ⟨t2, a1, b1⟩ := kx E ce q9 T'.heap (locs ++ L) hp ⟨hw.1, by rw [e1]; exact hb, k3, hw.2.2.2⟩ (by rw [e1]; exact hce) hcv hcl9 T' rfl X'
    exact ⟨t2, stp.trans a1, b1⟩
/-- the end: an int -/
theorem xr_i (hc : CallFix p m c cc nL s args Tw own) (hlocks : meth.locks = false) {ty : FieldType} (hr : meth.sig.returnType = some ty) {v : Int32} (hn : narrow ty (.int v) = .int v) {post : Int32 → S → Prop} {u : S} (hw : x_B D cs base (fa u) (fn u) (fs u) (fσ u) s H locs) (hp : post v u) (h1 : cells ≤ mc) (h2 : slots ≤ ms) (hdg : decode cc pc = .ok (.ireturn, 1)) :
    W p l e R s m args below meth c H locs cells slots (MQ below (va_Qi post (fun u => x_U D cs base (fa u) (fn u) (fs u) (fσ u)) (x_A base)) args s mc ms (x_A base)) (F0 m pc ls [.int v]) := by
  refine W.widen (k := mc) (n := ms) h1 h2 ?_
  exact W.zret hc.1 hc.2.1 hr hn (fun t ht hW => ⟨⟨v, u, rfl, hp, hw.toU ht hW⟩, hw.2.2.1.F ht⟩) hw.2.2.1.2.2 hdg hlocks
theorem xr_v (hc : CallFix p m c cc nL s args Tw own) (hlocks : meth.locks = false) (hr : meth.sig.returnType = none) {post : S → Prop} {u : S} (hw : x_B D cs base (fa u) (fn u) (fs u) (fσ u) s H locs) (hp : post u) (h1 : cells ≤ mc) (h2 : slots ≤ ms) (hdg : decode cc pc = .ok (.return_, 1)) :
    W p l e R s m args below meth c H locs cells slots (MQ below (va_Qv post (fun u => x_U D cs base (fa u) (fn u) (fs u) (fσ u)) (x_A base)) args s mc ms (x_A base)) (F0 m pc ls []) := by
  refine W.widen (k := mc) (n := ms) h1 h2 ?_
  exact W.vret hc.1 hc.2.1 hr (fun t ht hW => ⟨⟨u, rfl, hp, hw.toU ht hW⟩, hw.2.2.1.F ht⟩) hw.2.2.1.2.2 hdg hlocks
theorem xr_xi (hc : CallFix p m c cc nL s args Tw own) (hlocks : meth.locks = false) {ty : FieldType} {XC : String → State → State → Prop} (hr : meth.sig.returnType = some ty) {v : Int32} (hn : narrow ty (.int v) = .int v) {post : Int32 → S → Prop} {u : S} (hw : x_B D cs base (fa u) (fn u) (fs u) (fσ u) s H locs) (hp : post v u) (h1 : cells ≤ mc) (h2 : slots ≤ ms) (hdg : decode cc pc = .ok (.ireturn, 1)) :
    W p l e R s m args below meth c H locs cells slots (vx_MQ below (va_Qi post (fun u => x_U D cs base (fa u) (fn u) (fs u) (fσ u)) (x_A base)) XC args s mc ms (x_A base)) (F0 m pc ls [.int v]) := by
  exact vx_ret (xr_i hc hlocks hr hn hw hp h1 h2 hdg)
theorem xr_xr (hc : CallFix p m c cc nL s args Tw own) (hlocks : meth.locks = false) {C : String} {XC : String → State → State → Prop} (hr : meth.sig.returnType = some (.object C)) {k j : Nat} {post : Nat → Prop} (hw : x_B D cs base ad n st σ s H locs) (hp : post j) (h1 : cells ≤ mc) (h2 : slots ≤ ms) (hdg : decode cc pc = .ok (.areturn, 1)) :
    W p l e R s m args below meth c H locs cells slots (vx_MQ below (va_Qr post (fun i a t => a = ad k i ∧ x_U D cs base ad n st σ t) (x_A base)) XC args s mc ms (x_A base)) (F0 m pc ls [.ref (ad k j)]) := by
  refine W.widen (k := mc) (n := ms) h1 h2 ?_
  exact vx_ret (W.aret hc.1 hc.2.1 hr (Or.inl ⟨C, rfl⟩) (Or.inr ⟨_, rfl⟩) (fun t ht hW => ⟨⟨j, ad k j, rfl, hp, rfl, hw.toU ht hW⟩, hw.2.2.1.F ht⟩) hw.2.2.1.2.2 hdg hlocks)
/-- a callee's throw goes on to the caller -/
theorem xo_out (hout : ∀ x ∈ c.exceptionTable.toList, False) (hlocks : meth.locks = false) {px : String → Prop} {Qc : Array Value → State → Outcome → State → Prop} {E : String} {ce : Cell} {q : Addr} (hw : x_B D cs base ad n st σ s H locs) (hp : px E) (hcell : H[q]? = some ce) (hv : ce.vm = .none) (hcl : s.vm.findClass E = some ce.cls) (h1 : cells ≤ mc) (h2 : slots ≤ ms) :
    vx_W p l e R s m args below meth c H locs cells slots (vx_MQ below Qc (x_XC D cs base ad n st σ px) args s mc ms (x_A base)) (F0 m pc ls rest) q := by
  exact vx_out (fun x hx => (hout x hx).elim) hlocks hcell hv hcl (fun t ht hal => ⟨hp, by rw [ht]; exact hw.2.1, hw.2.2.1.F ht⟩) hw.2.2.1.2.2 h1 h2
end XC
