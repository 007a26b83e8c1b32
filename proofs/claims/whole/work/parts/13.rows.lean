/-! the rows of the machine's instructions over the world of the system -/
theorem x_ty {k : Nat} {q : vw_C} (h : vwCl[k]? = some q) : ∃ ty0 : Nat → FieldType, ∀ j, j < q.2.2 → parseFieldDescriptor (q.2.1 j).2.2.1 = some (ty0 j) := by
  match k, h with
  | 0, h => cases h; exact ⟨tyX0, tyX0_ok⟩
  | 1, h => cases h; exact ⟨tyX1, tyX1_ok⟩
  | 2, h => cases h; exact ⟨tyX2, tyX2_ok⟩
  | 3, h => cases h; exact ⟨tyX3, tyX3_ok⟩
  | 4, h => cases h; exact ⟨tyX4, tyX4_ok⟩
  | 5, h => cases h; exact ⟨tyX5, tyX5_ok⟩
  | 6, h => cases h; exact ⟨tyX6, tyX6_ok⟩
  | 7, h => cases h; exact ⟨tyX7, tyX7_ok⟩
  | k + 8, h => simp [vwCl] at h
theorem x_nm {k : Nat} {q : vw_C} (h : vwCl[k]? = some q) : ∀ a, a < q.2.2 → ∀ b, b < q.2.2 → a ≠ b → (q.2.1 a).2.1 ≠ (q.2.1 b).2.1 := by
  match k, h with
  | 0, h => cases h; exact nmX0
  | 1, h => cases h; exact nmX1
  | 2, h => cases h; exact nmX2
  | 3, h => cases h; exact nmX3
  | 4, h => cases h; exact nmX4
  | 5, h => cases h; exact nmX5
  | 6, h => cases h; exact nmX6
  | 7, h => cases h; exact nmX7
  | k + 8, h => simp [vwCl] at h
theorem x_len_lt (k : Nat) : x_len k < 2 ^ 31 := by
  unfold x_len
  split <;> decide
def x_rm (d mc ms : Nat) : Room := { frames := d, cells := mc, slots := ms, locals := 40 * d }
theorem x_good {y : MethodName} {cc : ByteArray} {nL : Nat} {ret : Option FieldType} (h : Cond.code y cc nL ret ∈ Tw) : GoodIn Tw (Cond.code y cc nL ret :: Tw) := fun w hw => by
  rcases List.mem_cons.mp hw with rfl | hw
  · exact ⟨h, good_of_word (Tw_good _ h)⟩
  · exact ⟨hw, good_of_word (Tw_good _ hw)⟩
section XR
variable {p : Program} {l : Launch} {e : Env} {R : Room} {s : State} {m : MethodId} {args : Array Value} {below : List Frame} {meth : Method} {c : Code} {H : Heap} {locs : List Loc} {cells slots : Nat} {Q : State → Prop}
variable {cc : ByteArray} {nL pc : Nat} {own : String} {ls : Array Slot} {rest : List Value} {D : va_G} {cs : Nat → ClassId} {base : Nat} {ad : Nat → Nat → Nat} {n st : Nat → Nat} {σ : x_St}
/-- getfield of an int -/
theorem xg_i (hc : CallFix p m c cc nL s args Tw own) (hw : x_B D cs base ad n st σ s H locs) (k i j : Nat) {C : String} {T : u_T} {N index : Nat} (hcl : vwCl[k]? = some (C, T, N)) (hkd : x_kd k = 0) (hN : x_N k = N) (htp : x_tp k j = none) (hj : j < N) (hi : i < n k) (hlink : Cond.fieldLink own index (T j).1 (T j).2.1 (T j).2.2.1 ∈ Tw) (hdg : decode cc pc = .ok (.getfield index, 3))
    (kk : W p l e R s m args below meth c H locs cells slots Q (F0 m (pc + 3) ls (.int (σ k i j) :: rest))) : W p l e R s m args below meth c H locs cells slots Q (F0 m pc ls (.ref (ad k i) :: rest)) := by
  have hP := hw.one hi (e := .inr (k, x_fs ad st σ k i)) (by simp [x_E, hkd])
  refine va_get (D := D) (ci := k) (v := .int (σ k i j)) (C := C) (T := T) (N := N) hc.1 hc.2.1 hc.2.2.2.2 (x_hin hcl) hc.2.2.2.1 hw.1 hP 0 rfl hcl j hj (hc.2.2.2.2 _ hlink) (fun _ h9 => h9) ?_ hdg kk
  simp [x_fs, hN, hj, x_fv, htp]
/-- getfield of a reference -/
theorem xg_r (hc : CallFix p m c cc nL s args Tw own) (hw : x_B D cs base ad n st σ s H locs) (k i j : Nat) {k' : Nat} {C : String} {T : u_T} {N index : Nat} (hcl : vwCl[k]? = some (C, T, N)) (hkd : x_kd k = 0) (hN : x_N k = N) (htp : x_tp k j = some k') (hj : j < N) (hi : i < n k) (hlk : i < st (100 + k')) (hlink : Cond.fieldLink own index (T j).1 (T j).2.1 (T j).2.2.1 ∈ Tw) (hdg : decode cc pc = .ok (.getfield index, 3))
    (kk : W p l e R s m args below meth c H locs cells slots Q (F0 m (pc + 3) ls (.ref (ad k' i) :: rest))) : W p l e R s m args below meth c H locs cells slots Q (F0 m pc ls (.ref (ad k i) :: rest)) := by
  have hP := hw.one hi (e := .inr (k, x_fs ad st σ k i)) (by simp [x_E, hkd])
  refine va_get (D := D) (ci := k) (v := .ref (ad k' i)) (C := C) (T := T) (N := N) hc.1 hc.2.1 hc.2.2.2.2 (x_hin hcl) hc.2.2.2.1 hw.1 hP 0 rfl hcl j hj (hc.2.2.2.2 _ hlink) (fun _ h9 => h9) ?_ hdg kk
  simp [x_fs, hN, hj, x_fv, htp, hlk]
/-- putfield of an int (or boolean) that isn't final -/
theorem xp_i (hc : CallFix p m c cc nL s args Tw own) (hw : x_B D cs base ad n st σ s H locs) (k i j : Nat) {C : String} {T : u_T} {N index : Nat} {ty : FieldType} {v : Int32} (hcl : vwCl[k]? = some (C, T, N)) (hkd : x_kd k = 0) (hN : x_N k = N) (htp : x_tp k j = none) (hj : j < N) (hi : i < n k) (hfin : (T j).2.2.2 = false) (hd : parseFieldDescriptor (T j).2.2.1 = some ty) (hn : narrow ty (.int v) = .int v) (hfit : fits ty (.int v) = true) (hlink : Cond.fieldLink own index (T j).1 (T j).2.1 (T j).2.2.1 ∈ Tw) (hdg : decode cc pc = .ok (.putfield index, 3))
    (kk : ∀ (H1 : Heap) (locs1 : List Loc), x_B D cs base ad n st (x_up σ k i j v) s H1 locs1 → W p l e R s m args below meth c H1 locs1 cells slots Q (F0 m (pc + 3) ls rest)) : W p l e R s m args below meth c H locs cells slots Q (F0 m pc ls (.int v :: .ref (ad k i) :: rest)) := by
  obtain ⟨ty0, hty⟩ := x_ty hcl
  have hnm := x_nm hcl
  have hts := hc.2.2.2.2
  have hin := x_hin hcl
  have hap := va_apart (own := own) hts hin ty0 hty hnm hw.1 hcl
  have hat := hw.at hi
  rw [show x_E cs ad st σ k i = .inr (k, x_fs ad st σ k i) by simp [x_E, hkd]] at hat
  obtain ⟨r, h1, cell, q1, q2, q3, q4⟩ := hat
  have hr : r = (C, T, N) := Option.some.inj (h1.symm.trans hcl)
  subst hr
  obtain ⟨hS, hfc, kC, hkC, hkind⟩ := hw.1.1 k _ hcl
  obtain ⟨cf, kf, fi, f, hi', hsl⟩ := hS j hj
  have hlay := hts _ (hin _ (u_in_lay hj))
  unfold u_lay at hlay
  rw [if_neg (by rw [hfin]; decide)] at hlay
  have hst := (u_facts hfc hkC (u_lays hts hin hj) hi').1
  have h6 := u_store hfc hkC hkind hlay hi' hd hn hfit
  refine W.putK hc.1 hc.2.1 (f := f) ⟨hc.2.2.2.1, hts _ hlink, ⟨_, _, _, hi'⟩, hst⟩ (by rw [q2]; exact h6) q1 q3 (by rw [hsl]; exact k2_hasslot (q4 j hj)) rfl rfl hdg fun H' e1 e2 e3 => ?_
  rw [hsl] at e1 ⊢
  refine kk H' _ ⟨hw.1, hw.2.1.put hi ?_ e3, hw.2.2.1.put e2 e3 (hw.2.1.1 k i hi).2, hw.2.2.2⟩
  rw [show x_E cs ad st (x_up σ k i j v) k i = .inr (k, x_fs ad st (x_up σ k i j v) k i) by simp [x_E, hkd], ← x_fs_set htp]
  exact ⟨_, hcl, t_OB.to (V := updV (vp_V (x_fs ad st σ k i)) j (.int v)) ⟨_, e1, q2, q3, t_set q4 hap hj (.int v)⟩ (fun q _ => vp_updV_set (by simpa [x_fs, hN] using hj) (.int v) q)⟩
/-- iaload -/
theorem xa_ld (hc : CallFix p m c cc nL s args Tw own) (hw : x_B D cs base ad n st σ s H locs) (k i j : Nat) (hkd : x_kd k = 1) (hi : i < n k) {x : Int32} (hx : x = nI j) (hj : j < x_len k) (hdg : decode cc pc = .ok (.iaload, 1))
    (kk : W p l e R s m args below meth c H locs cells slots Q (F0 m (pc + 1) ls (.int (σ k i j) :: rest))) : W p l e R s m args below meth c H locs cells slots Q (F0 m pc ls (.int x :: .ref (ad k i) :: rest)) := by
  subst hx
  have hP := hw.one hi (e := .inl (cs 0, x_len k, .inl (σ k i))) (by simp [x_E, hkd])
  refine va_iald hc.1 hc.2.1 hw.1 hP 0 0 rfl rfl (vp_in_nI hj (x_len_lt k)) hdg ?_
  rw [nI_clamp (Nat.lt_trans hj (x_len_lt k))]
  exact kk
/-- iastore -/
theorem xa_st (hc : CallFix p m c cc nL s args Tw own) (hw : x_B D cs base ad n st σ s H locs) (k i j : Nat) (hkd : x_kd k = 1) (hi : i < n k) {x v : Int32} (hx : x = nI j) (hj : j < x_len k) (hdg : decode cc pc = .ok (.iastore, 1))
    (kk : ∀ (H1 : Heap) (locs1 : List Loc), x_B D cs base ad n st (x_up σ k i j v) s H1 locs1 → W p l e R s m args below meth c H1 locs1 cells slots Q (F0 m (pc + 1) ls rest)) : W p l e R s m args below meth c H locs cells slots Q (F0 m pc ls (.int v :: .int x :: .ref (ad k i) :: rest)) := by
  subst hx
  have hat := hw.at hi
  rw [show x_E cs ad st σ k i = .inl (cs 0, x_len k, .inl (σ k i)) by simp [x_E, hkd]] at hat
  refine W.iast hc.1 hc.2.1 hat ((hw.1.2 0 _ rfl).1 (x_len k) (fun q => .int (σ k i q))) (fun q => by cases q) (by show ¬ (nI j < 0 ∨ (arrV _ _ _).slots.size ≤ _); rw [arrV_size]; exact vp_in_nI hj (x_len_lt k)) rfl rfl hdg fun H1 e1 z oq => ?_
  refine kk H1 _ ⟨hw.1, hw.2.1.put hi ?_ oq, hw.2.2.1.put z oq (hw.2.1.1 k i hi).2, hw.2.2.2⟩
  rw [show x_E cs ad st (x_up σ k i j v) k i = .inl (cs 0, x_len k, .inl (x_up σ k i j v k i)) by simp [x_E, hkd]]
  show H1[ad k i]? = some (vp_cell _ _)
  rw [e1, vp_cell_i, vp_cell_i, arrV_store, nI_clamp (Nat.lt_trans hj (x_len_lt k))]
  congr 2
  funext q
  by_cases hq : q = j
  · subst hq
    simp [updV, x_up]
  · simp [updV, x_up, hq]
/-- baload of a boolean row -/
theorem xa_zld (hc : CallFix p m c cc nL s args Tw own) (hw : x_B D cs base ad n st σ s H locs) (k i j : Nat) (hkd : x_kd k = 2) (hi : i < n k) {x : Int32} (hx : x = nI j) (hj : j < x_len k) (hdg : decode cc pc = .ok (.baload, 1))
    (kk : W p l e R s m args below meth c H locs cells slots Q (F0 m (pc + 1) ls (.int (σ k i j) :: rest))) : W p l e R s m args below meth c H locs cells slots Q (F0 m pc ls (.int x :: .ref (ad k i) :: rest)) := by
  subst hx
  have hP := hw.one hi (e := .inl (cs 1, x_len k, .inl (σ k i))) (by simp [x_E, hkd])
  refine va_zald hc.1 hc.2.1 hw.1 hP 0 1 rfl rfl (vp_in_nI hj (x_len_lt k)) hdg ?_
  rw [nI_clamp (Nat.lt_trans hj (x_len_lt k))]
  exact kk
/-- bastore of a boolean row -/
theorem xa_zst (hc : CallFix p m c cc nL s args Tw own) (hw : x_B D cs base ad n st σ s H locs) (k i j : Nat) (hkd : x_kd k = 2) (hi : i < n k) {x v v' : Int32} (hx : x = nI j) (hj : j < x_len k) (hv : narrow .boolean (.int v) = .int v') (hdg : decode cc pc = .ok (.bastore, 1))
    (kk : ∀ (H1 : Heap) (locs1 : List Loc), x_B D cs base ad n st (x_up σ k i j v') s H1 locs1 → W p l e R s m args below meth c H1 locs1 cells slots Q (F0 m (pc + 1) ls rest)) : W p l e R s m args below meth c H locs cells slots Q (F0 m pc ls (.int v :: .int x :: .ref (ad k i) :: rest)) := by
  subst hx
  have hat := hw.at hi
  rw [show x_E cs ad st σ k i = .inl (cs 1, x_len k, .inl (σ k i)) by simp [x_E, hkd]] at hat
  refine W.zast hc.1 hc.2.1 hat ((hw.1.2 1 _ rfl).1 (x_len k) (fun q => .int (σ k i q))) (fun q => by cases q) (by show ¬ (nI j < 0 ∨ (arrV _ _ _).slots.size ≤ _); rw [arrV_size]; exact vp_in_nI hj (x_len_lt k)) rfl rfl hdg fun H1 e1 z oq => ?_
  refine kk H1 _ ⟨hw.1, hw.2.1.put hi ?_ oq, hw.2.2.1.put z oq (hw.2.1.1 k i hi).2, hw.2.2.2⟩
  rw [show x_E cs ad st (x_up σ k i j v') k i = .inl (cs 1, x_len k, .inl (x_up σ k i j v' k i)) by simp [x_E, hkd]]
  show H1[ad k i]? = some (vp_cell _ _)
  rw [e1, vp_cell_i, vp_cell_i, arrV_store, nI_clamp (Nat.lt_trans hj (x_len_lt k)), hv]
  congr 2
  funext q
  by_cases hq : q = j
  · subst hq
    simp [updV, x_up]
  · simp [updV, x_up, hq]
theorem x_ref_ty {k : Nat} (hkd : x_kd k = 3) (cs : Nat → ClassId) : ∃ (t0 : Nat) (C : String) (T : u_T) (N : Nat), (x_tys cs)[t0]? = some (cs k, .object C) ∧ vwCl[x_el k]? = some (C, T, N) ∧ x_kd (x_el k) = 0 := by
  by_cases h : k = 20
  · subst h; exact ⟨3, _, _, _, rfl, rfl, rfl⟩
  by_cases h : k = 21
  · subst h; exact ⟨4, _, _, _, rfl, rfl, rfl⟩
  by_cases h : k = 22
  · subst h; exact ⟨5, _, _, _, rfl, rfl, rfl⟩
  by_cases h : k = 23
  · subst h; exact ⟨6, _, _, _, rfl, rfl, rfl⟩
  by_cases h : k = 24
  · subst h; exact ⟨7, _, _, _, rfl, rfl, rfl⟩
  exfalso
  unfold x_kd at hkd
  split at hkd <;> simp_all
/-- aaload -/
theorem xa_rld (hc : CallFix p m c cc nL s args Tw own) (hw : x_B D cs base ad n st σ s H locs) (k i j : Nat) (hkd : x_kd k = 3) (hi : i < n k) {x : Int32} (hx : x = nI j) (hj : j < x_len k) (hst : j < st k) (hdg : decode cc pc = .ok (.aaload, 1))
    (kk : W p l e R s m args below meth c H locs cells slots Q (F0 m (pc + 1) ls (.ref (ad (x_el k) j) :: rest))) : W p l e R s m args below meth c H locs cells slots Q (F0 m pc ls (.int x :: .ref (ad k i) :: rest)) := by
  subst hx
  obtain ⟨t0, C, T, N, ht, -⟩ := x_ref_ty hkd cs
  have hP := hw.one hi (e := .inl (cs k, x_len k, .inr (.inr (.inr (.inr (x_rr ad st k)))))) (by simp [x_E, hkd])
  refine va_aldq hc.1 hc.2.1 hw.1 hP 0 t0 rfl ht (vp_in_nI hj (x_len_lt k)) hdg ?_
  rw [nI_clamp (Nat.lt_trans hj (x_len_lt k)), show x_rr ad st k j = some (ad (x_el k) j) by simp [x_rr, hst]]
  exact kk
/-- aastore: the next object into its row -/
theorem xa_rst (hc : CallFix p m c cc nL s args Tw own) (hw : x_B D cs base ad n st σ s H locs) (k i : Nat) {j : Nat} {st' : Nat → Nat} (hkd : x_kd k = 3) (hi : i < n k) (h1 : n k = 1) {x : Int32} (hx : x = nI j) (hjs : j = st k) (hj : j < x_len k) (hlive : j < n (x_el k)) (hst : ∀ a, st' a = if a = k then st k + 1 else st a) (hdg : decode cc pc = .ok (.aastore, 1))
    (kk : ∀ (H1 : Heap) (locs1 : List Loc), x_B D cs base ad n st' σ s H1 locs1 → W p l e R s m args below meth c H1 locs1 cells slots Q (F0 m (pc + 1) ls rest)) : W p l e R s m args below meth c H locs cells slots Q (F0 m pc ls (.ref (ad (x_el k) j) :: .int x :: .ref (ad k i) :: rest)) := by
  subst hx
  obtain ⟨t0, C, T, N, ht, hcl, hkd0⟩ := x_ref_ty hkd cs
  have hat := hw.at hi
  rw [show x_E cs ad st σ k i = .inl (cs k, x_len k, .inr (.inr (.inr (.inr (x_rr ad st k))))) by simp [x_E, hkd]] at hat
  have hav := hw.at hlive
  rw [show x_E cs ad st σ (x_el k) j = .inr (x_el k, x_fs ad st σ (x_el k) j) by simp [x_E, hkd0]] at hav
  obtain ⟨r', hr', cellV, g1, g2, g3, -⟩ := hav
  have hcls := (hw.1.1 _ _ hcl).2
  obtain ⟨kA, comp, k1, k2, k3, -⟩ := (hw.1.2 t0 _ ht).2
  have hcomp : comp = D.1 (x_el k) := Option.some.inj (k3.symm.trans hcls.1)
  subst hcomp
  obtain ⟨kC, hkC, -⟩ := hcls.2
  have h0 : ¬ nI j < 0 := nI_pos (Nat.lt_trans hj (x_len_lt k))
  refine W.aast hc.1 hc.2.1 hat (fun q h => by cases h) (fun h => by cases h) k1 k2 rfl hkC ⟨h0, by show _ < (arrV _ _ _).slots.size; rw [arrV_size, nI_clamp (Nat.lt_trans hj (x_len_lt k))]; exact hj⟩ g1 (fun q h => by rw [g3] at h; cases h) (by rw [g2]; exact hkC) (by rw [g2]; exact va_assign hcls) rfl rfl hdg fun H1 e1 z oq => ?_
  have hEo : ∀ a b, ¬ a = k → x_E cs ad st' σ a b = x_E cs ad st σ a b := fun a b h => by
    have hr : x_rr ad st' a = x_rr ad st a := by funext q; simp [x_rr, hst, h]
    have hk25 : k < 25 := by
      rcases Nat.lt_or_ge k 25 with q | q
      · exact q
      · exfalso
        unfold x_kd at hkd
        split at hkd <;> omega
    have h1 : ∀ q, st' (100 + q) = st (100 + q) := fun q => by rw [hst, if_neg (by omega)]
    have h2 : x_fs ad st' σ a b = x_fs ad st σ a b := by
      unfold x_fs
      congr 1
      funext q
      simp [x_fv, h1]
    simp [x_E, hr, h2]
  refine kk H1 _ ⟨hw.1, ⟨fun a b hb => ⟨?_, (hw.2.1.1 a b hb).2⟩, hw.2.1.2⟩, hw.2.2.1.put z oq (hw.2.1.1 k i hi).2, hw.2.2.2⟩
  by_cases ha : a = k
  · subst ha
    have hb0 : b = i := by omega
    subst hb0
    rw [show x_E cs ad st' σ a b = .inl (cs a, x_len a, .inr (.inr (.inr (.inr (x_rr ad st' a))))) by simp [x_E, hkd]]
    show H1[ad a b]? = some (vp_cell _ _)
    rw [e1, vp_cell_q, vp_cell_q, arrV_store, nI_clamp (Nat.lt_trans hj (x_len_lt a))]
    congr 2
    funext q
    by_cases hq : q = j
    · subst hq
      simp [updV, x_rr, hst, va_rf, hjs]
    · have : (q < st a + 1) ↔ (q < st a) := by omega
      simp [updV, x_rr, hst, hq, this]
  · rw [hEo a b ha]
    exact (hw.2.1.1 a b hb).1.kept (oq _ (fun z => ha (hw.2.1.2 a b k i hb hi z).1))
/-- lastore into the law's row -/
theorem xl_st (hc : CallFix p m c cc nL s args Tw own) (hw : x_B D cs base ad n st σ s H locs) {j : Nat} (hi : 0 < n 8) {x v : Int32} (hx : x = nI j) (hj : j < 1) (hdg : decode cc pc = .ok (.lastore, 1))
    (kk : ∀ (H1 : Heap) (locs1 : List Loc), x_B D cs base ad n st (x_up σ 8 0 j v) s H1 locs1 → W p l e R s m args below meth c H1 locs1 cells slots Q (F0 m (pc + 1) ls rest)) : W p l e R s m args below meth c H locs cells slots Q (F0 m pc ls (.long v.toInt64 :: .int x :: .ref (ad 8 0) :: rest)) := by
  subst hx
  have hat := hw.at hi
  rw [show x_E cs ad st σ 8 0 = .inl (cs 2, 1, .inr (.inl (fun q => (σ 8 0 q).toInt64))) from rfl] at hat
  refine W.last hc.1 hc.2.1 hat ((hw.1.2 2 _ rfl).1 1 (fun q => .long (σ 8 0 q).toInt64)) (fun q => by cases q) (by show ¬ (nI j < 0 ∨ (arrV _ _ _).slots.size ≤ _); rw [arrV_size]; exact vp_in_nI (N := 1) hj (by decide)) rfl rfl hdg fun H1 e1 z oq => ?_
  refine kk H1 _ ⟨hw.1, hw.2.1.put hi ?_ oq, hw.2.2.1.put z oq (hw.2.1.1 8 0 hi).2, hw.2.2.2⟩
  rw [show x_E cs ad st (x_up σ 8 0 j v) 8 0 = .inl (cs 2, 1, .inr (.inl (fun q => (x_up σ 8 0 j v 8 0 q).toInt64))) from rfl]
  show H1[ad 8 0]? = some (vp_cell _ _)
  rw [e1, vp_cell_l, vp_cell_l, arrV_store, nI_clamp (Nat.lt_trans hj (by decide))]
  congr 2
  funext q
  by_cases hq : q = j
  · subst hq
    simp [updV, x_up]
  · simp [updV, x_up, hq]
/-- laload from the law's row -/
theorem xl_ld (hc : CallFix p m c cc nL s args Tw own) (hw : x_B D cs base ad n st σ s H locs) {j : Nat} (hi : 0 < n 8) {x : Int32} (hx : x = nI j) (hj : j < 1) (hdg : decode cc pc = .ok (.laload, 1))
    (kk : W p l e R s m args below meth c H locs cells slots Q (F0 m (pc + 1) ls (.long (σ 8 0 j).toInt64 :: rest))) : W p l e R s m args below meth c H locs cells slots Q (F0 m pc ls (.int x :: .ref (ad 8 0) :: rest)) := by
  subst hx
  have hP := hw.one hi (e := .inl (cs 2, 1, .inr (.inl (fun q => (σ 8 0 q).toInt64)))) rfl
  refine va_lald hc.1 hc.2.1 hw.1 hP 0 2 rfl rfl (vp_in_nI hj (by decide)) hdg ?_
  rw [nI_clamp (Nat.lt_trans hj (by decide))]
  exact kk
/-- getstatic of the two rows of powers -/
theorem xs_pow (hc : CallFix p m c cc nL s args Tw own) (hw : x_B D cs base ad n st σ s H locs) {index : Nat} (hlink : Cond.fieldLink own index RX2 "POWERS" "[I" ∈ Tw) (hdg : decode cc pc = .ok (.getstatic index, 3))
    (kk : ∀ aP : Nat, va_T .int aP 6 (fun j => .int (x_pow j)) (fun q => base ≤ q) s s.heap → aP < base → W p l e R s m args below meth c H locs cells slots Q (F0 m (pc + 3) ls (.ref aP :: rest))) : W p l e R s m args below meth c H locs cells slots Q (F0 m pc ls rest) := by
  obtain ⟨aP, h1, h2, h3⟩ := hw.2.2.2.2.1
  exact va_gets hc.1 hc.2.1 h1 hw.2.2.1 hc.2.2.2.1 (hc.2.2.2.2 _ hlink) (fun _ h => h) hdg (kk aP h2 h3)
theorem xs_once (hc : CallFix p m c cc nL s args Tw own) (hw : x_B D cs base ad n st σ s H locs) {index : Nat} (hlink : Cond.fieldLink own index RX2 "ONCE_TAKEN" "[I" ∈ Tw) (hdg : decode cc pc = .ok (.getstatic index, 3))
    (kk : ∀ aP : Nat, va_T .int aP 4 (fun j => .int (x_once j)) (fun q => base ≤ q) s s.heap → aP < base → W p l e R s m args below meth c H locs cells slots Q (F0 m (pc + 3) ls (.ref aP :: rest))) : W p l e R s m args below meth c H locs cells slots Q (F0 m pc ls rest) := by
  obtain ⟨aP, h1, h2, h3⟩ := hw.2.2.2.2.2.1
  exact va_gets hc.1 hc.2.1 h1 hw.2.2.1 hc.2.2.2.1 (hc.2.2.2.2 _ hlink) (fun _ h => h) hdg (kk aP h2 h3)
theorem xs_td (hc : CallFix p m c cc nL s args Tw own) (hw : x_B D cs base ad n st σ s H locs) {aP L j : Nat} {f : Nat → Int32} (hX : va_T .int aP L (fun j => .int (f j)) (fun q => base ≤ q) s s.heap) (hb : aP < base) {x : Int32} (hx : x = nI j) (hj : j < L) (hL : L < 2 ^ 31) (hdg : decode cc pc = .ok (.iaload, 1))
    (kk : W p l e R s m args below meth c H locs cells slots Q (F0 m (pc + 1) ls (.int (f j) :: rest))) : W p l e R s m args below meth c H locs cells slots Q (F0 m pc ls (.int x :: .ref aP :: rest)) := by
  subst hx
  refine va_ti hc.1 hc.2.1 hX hw.2.2.1 (vp_in_nI hj hL) rfl hdg ?_
  rw [nI_clamp (Nat.lt_trans hj hL)]
  exact kk
theorem xs_ld (hc : CallFix p m c cc nL s args Tw own) (hw : x_B D cs base ad n st σ s H locs) {aP L j : Nat} {f : Nat → Int32} (hX : va_X aP L f s s.heap) (hb : aP < base) {x : Int32} (hx : x = nI j) (hj : j < L) (hL : L < 2 ^ 31) (hdg : decode cc pc = .ok (.iaload, 1))
    (kk : W p l e R s m args below meth c H locs cells slots Q (F0 m (pc + 1) ls (.int (f j) :: rest))) : W p l e R s m args below meth c H locs cells slots Q (F0 m pc ls (.int x :: .ref aP :: rest)) := by
  subst hx
  refine va_sld hc.1 hc.2.1 hX (Nat.lt_of_lt_of_le hb hw.2.2.2.1) (A := fun q => base ≤ q) (Nat.not_le.mpr hb) hw.2.2.1 (vp_in_nI hj hL) hdg ?_
  rw [nI_clamp (Nat.lt_trans hj hL)]
  exact kk
end XR
