/-! THE WORLD OF THE SYSTEM: every cell has a name (kind, index); its ints are σ kind index place; its address is ad kind index. Kinds 0 to 7: objects of the class of that number; 8: the law's long row; 10 to 19: int rows of the class; 20 to 24: rows of references; 36 to 69: the reference's rows (40: boolean). -/
abbrev x_St : Type := Nat → Nat → Nat → Int32
def x_N (k : Nat) : Nat := match k with
  | 0 => 9 | 1 => 7 | 2 => 5 | 3 => 4 | 4 => 8 | 5 => 10 | 6 => 14 | 7 => 42 | _ => 0
def x_tp (k j : Nat) : Option Nat := match k with
  | 1 => match j with | 3 => some 10 | _ => none
  | 2 => match j with | 0 => some 11 | 2 => some 12 | 3 => some 13 | 4 => some 14 | _ => none
  | 5 => match j with | 3 => some 15 | 5 => some 16 | 6 => some 17 | _ => none
  | 6 => match j with | 0 => some 20 | 2 => some 21 | 4 => some 22 | 5 => some 23 | 7 => some 24 | 9 => some 18 | 10 => some 2 | 11 => some 19 | _ => none
  | 7 => if 6 ≤ j ∧ j < 40 then some (30 + j) else none
  | _ => none
def x_len (k : Nat) : Nat := match k with
  | 8 => 1 | 10 => 12 | 11 => 40 | 12 => 144 | 13 => 26244 | 14 => 36 | 15 => 36 | 16 => 36 | 17 => 36 | 18 => 30 | 19 => 6
  | 20 => 30 | 21 => 400 | 22 => 6 | 23 => 30 | 24 => 30
  | 36 => 30 | 37 => 30 | 38 => 30 | 39 => 1080 | 40 => 30 | 41 => 40
  | 42 => 400 | 43 => 400 | 44 => 400 | 45 => 400 | 46 => 400 | 47 => 400 | 48 => 400 | 49 => 400 | 50 => 400
  | 51 => 6 | 52 => 6 | 53 => 6 | 54 => 6 | 55 => 30 | 56 => 30 | 57 => 30 | 58 => 30 | 59 => 360
  | 60 => 30 | 61 => 30 | 62 => 30 | 63 => 30 | 64 => 30 | 65 => 30 | 66 => 30 | 67 => 30 | 68 => 151552 | 69 => 36 | _ => 0
def x_el (k : Nat) : Nat := match k with
  | 20 => 5 | 21 => 0 | 22 => 3 | 23 => 1 | 24 => 4 | _ => 0
def x_kd (k : Nat) : Nat := match k with
  | 0 => 0 | 1 => 0 | 2 => 0 | 3 => 0 | 4 => 0 | 5 => 0 | 6 => 0 | 7 => 0 | 8 => 4 | 20 => 3 | 21 => 3 | 22 => 3 | 23 => 3 | 24 => 3 | 40 => 2 | _ => 1
/-- a field that leads to (k', i) is set once i is below st (100 + k') -/
def x_fv (ad : Nat → Nat → Nat) (st : Nat → Nat) (σ : x_St) (k i j : Nat) : Value := match x_tp k j with
  | none => .int (σ k i j)
  | some k' => if i < st (100 + k') then .ref (ad k' i) else .null
def x_fs (ad : Nat → Nat → Nat) (st : Nat → Nat) (σ : x_St) (k i : Nat) : List Value := (List.range (x_N k)).map (x_fv ad st σ k i)
def x_rr (ad : Nat → Nat → Nat) (st : Nat → Nat) (k : Nat) : Nat → Option Nat := fun j => if j < st k then some (ad (x_el k) j) else none
def x_E (cs : Nat → ClassId) (ad : Nat → Nat → Nat) (st : Nat → Nat) (σ : x_St) (k i : Nat) : va_E := match x_kd k with
  | 0 => .inr (k, x_fs ad st σ k i)
  | 1 => .inl (cs 0, x_len k, .inl (σ k i))
  | 2 => .inl (cs 1, x_len k, .inl (σ k i))
  | 3 => .inl (cs k, x_len k, .inr (.inr (.inr (.inr (x_rr ad st k)))))
  | _ => .inl (cs 2, x_len k, .inr (.inl (fun j => (σ k i j).toInt64)))
def x_up (σ : x_St) (k i j : Nat) (v : Int32) : x_St := fun a b d => if a = k ∧ b = i ∧ d = j then v else σ a b d
theorem x_up_s {σ : x_St} {k i j : Nat} {v : Int32} : x_up σ k i j v k i j = v := by simp [x_up]
theorem x_up_n {σ : x_St} {k i j a b d : Nat} {v : Int32} (h : ¬ (a = k ∧ b = i ∧ d = j)) : x_up σ k i j v a b d = σ a b d := by simp [x_up, h]
def x_H (D : va_G) (cs : Nat → ClassId) (base : Nat) (ad : Nat → Nat → Nat) (n st : Nat → Nat) (σ : x_St) (H : Heap) : Prop :=
  (∀ k i : Nat, i < n k → va_at D vwCl (ad k i, x_E cs ad st σ k i) H ∧ base ≤ ad k i) ∧ ∀ k i k' i' : Nat, i < n k → i' < n k' → ad k i = ad k' i' → k = k' ∧ i = i'
def x_tys (cs : Nat → ClassId) : List (ClassId × FieldType) := [(cs 0, .int), (cs 1, .boolean), (cs 2, .long), (cs 20, .object RX5), (cs 21, .object RX0), (cs 22, .object RX3), (cs 23, .object RX1), (cs 24, .object RX4)]
def x_pow (j : Nat) : Int32 := match j with | 0 => 1 | 1 => 3 | 2 => 9 | 3 => 27 | 4 => 81 | 5 => 243 | _ => 729
def x_once (j : Nat) : Int32 := match j with | 0 => 0 | 1 => 1 | 2 => 4 | _ => 13
/-! words that aren't among the good ones, but stay -/
def x_isN (w : Cond) : Bool := match w with
  | .methodLinkNest .. => true | .castable .. => true | .declares .. => true | _ => false
def x_Nws : List Cond := tables_1.filter x_isN
def x_isS (w : Cond) : Option (String × Nat × String) := match w with
  | .stringRef a b d => some (a, b, d) | _ => none
def x_Strs : List (String × Nat × String) := tables_1.filterMap x_isS
def x_nse : String := "java/util/NoSuchElementException"
def x_iae : String := "java/lang/IllegalArgumentException"
def x_Rs : List String := [RX5, RX0, RX3, RX1, RX4]
def x_Z (base : Nat) (U : State) (H : Heap) : Prop :=
  (∃ aP : Nat, va_Z RX2 "POWERS" "[I" (.ref aP) (fun q => base ≤ q) U H ∧ va_T .int aP 6 (fun j => .int (x_pow j)) (fun q => base ≤ q) U H ∧ aP < base) ∧
  (∃ aO : Nat, va_Z RX2 "ONCE_TAKEN" "[I" (.ref aO) (fun q => base ≤ q) U H ∧ va_T .int aO 4 (fun j => .int (x_once j)) (fun q => base ≤ q) U H ∧ aO < base) ∧
  vx_Zq Bundle.tN "UNASSIGNED_STACK" Bundle.steD (fun q => base ≤ q) U H ∧ vx_Zq Bundle.tN "SUPPRESSED_SENTINEL" Bundle.listD (fun q => base ≤ q) U H ∧
  (∀ w ∈ x_Nws, va_Nw w U) ∧ (∀ q ∈ x_Strs, ∃ sa : Nat, vk_R q.1 q.2.1 q.2.2 sa U) ∧ va_Nc x_nse x_iae U ∧ va_Nc x_iae x_nse U ∧ ∀ C ∈ x_Rs, va_AO C U
def x_U (D : va_G) (cs : Nat → ClassId) (base : Nat) (ad : Nat → Nat → Nat) (n st : Nat → Nat) (σ : x_St) (U : State) : Prop :=
  va_K D vwCl (x_tys cs) U ∧ x_H D cs base ad n st σ U.heap ∧ base ≤ U.heap.size ∧ x_Z base U U.heap
def x_B (D : va_G) (cs : Nat → ClassId) (base : Nat) (ad : Nat → Nat → Nat) (n st : Nat → Nat) (σ : x_St) (s : State) (H : Heap) (locs : List Loc) : Prop :=
  va_K D vwCl (x_tys cs) s ∧ x_H D cs base ad n st σ H ∧ va_S (fun q => base ≤ q) s.heap H locs ∧ base ≤ s.heap.size ∧ x_Z base s s.heap
theorem x_Nws_warm {s U : State} (hW : s.WarmedH U.vm) {w : Cond} (hw : x_isN w = true) (h : va_Nw w s) : va_Nw w U := by
  cases w <;> first | exact va_Nw.warmM hW h | exact va_Nw.warmC hW h | exact va_Nw.warmD hW h | (simp [x_isN] at hw)
theorem x_Nws_on {w : Cond} (hw : x_isN w = true) : w.onTables = true := by
  cases w <;> first | rfl | (simp [x_isN] at hw)
theorem x_Z.warm {base : Nat} {s U : State} {H H1 : Heap} (hW : s.WarmedH U.vm) (hq : ∀ a : Nat, a < H.size → ¬ base ≤ a → H1[a]? = H[a]?) (h : x_Z base s H) : x_Z base U H1 := by
  obtain ⟨⟨aP, p1, p2, p3⟩, ⟨aO, o1, o2, o3⟩, h3, h4, h5, h6, h7, h8, h9⟩ := h
  refine ⟨⟨aP, (va_Z.moved hW.alike p1).kept hq, ?_, p3⟩, ⟨aO, (va_Z.moved hW.alike o1).kept hq, ?_, o3⟩, (vx_Zq.moved hW.alike h3).kept hq, (vx_Zq.moved hW.alike h4).kept hq, ?_, ?_, va_Nc.moved hW.alike h7, va_Nc.moved hW.alike h8, fun C hC => va_AO.moved hW.alike (h9 C hC)⟩
  · exact (va_T.moved hW.alike p2).kept hq
  · exact (va_T.moved hW.alike o2).kept hq
  · exact fun w hw => x_Nws_warm hW (List.mem_filter.mp hw).2 (h5 w hw)
  · intro q hq1
    obtain ⟨sa, hs⟩ := h6 q hq1
    exact ⟨sa, vk_R.warm hW hs⟩
theorem x_Z.same {base : Nat} {s U : State} {H : Heap} (hv : U.vm = s.vm) (h : x_Z base s H) : x_Z base U H := by
  have hal : s.vm.Alike U.vm := by rw [hv]; exact Vm.Alike.refl s.vm
  obtain ⟨⟨aP, p1, p2, p3⟩, ⟨aO, o1, o2, o3⟩, h3, h4, h5, h6, h7, h8, h9⟩ := h
  refine ⟨⟨aP, va_Z.moved hal p1, va_T.moved hal p2, p3⟩, ⟨aO, va_Z.moved hal o1, va_T.moved hal o2, o3⟩, vx_Zq.moved hal h3, vx_Zq.moved hal h4, ?_, ?_, va_Nc.moved hal h7, va_Nc.moved hal h8, fun C hC => va_AO.moved hal (h9 C hC)⟩
  · exact fun w hw => va_Nw.same (x_Nws_on (List.mem_filter.mp hw).2) hv.symm (h5 w hw)
  · intro q hq1
    obtain ⟨sa, hs⟩ := h6 q hq1
    exact ⟨sa, vk_R.same hv hs⟩
section
variable {D : va_G} {cs : Nat → ClassId} {base : Nat} {ad : Nat → Nat → Nat} {n st : Nat → Nat} {σ : x_St} {s : State} {H : Heap} {locs : List Loc}
theorem x_U.calling {U : State} (g : JFrame) (mk : MethodId) (a : Array Value) (h : x_U D cs base ad n st σ U) : x_U D cs base ad n st σ (U.calling g mk a) :=
  ⟨va_K.moved (u := U) (U := U.calling g mk a) (Vm.Alike.refl U.vm) h.1, h.2.1, h.2.2.1, x_Z.same (s := U) rfl h.2.2.2⟩
theorem x_B.toU {U : State} (h : x_B D cs base ad n st σ s H locs) (hU : U.heap = H) (hW : s.WarmedH U.vm) : x_U D cs base ad n st σ U := by
  obtain ⟨hK, hH, hS, hb, hZ⟩ := h
  refine ⟨va_K.moved hW.alike hK, by rw [hU]; exact hH, by rw [hU]; exact Nat.le_trans hb hS.1, ?_⟩
  rw [hU]
  exact x_Z.warm hW (fun a ha hn => hS.2.1 a ha hn) hZ
theorem x_B.back {t : State} {H1 : Heap} {locs1 : List Loc} {ad' : Nat → Nat → Nat} {n' st' : Nat → Nat} {σ' : x_St} (h : x_B D cs base ad n st σ s H locs) (ht : t.heap = H1) (hB : x_U D cs base ad' n' st' σ' t) (hS : va_S (fun q => base ≤ q) s.heap H1 locs1) : x_B D cs base ad' n' st' σ' s H1 locs1 :=
  ⟨h.1, ht ▸ hB.2.1, hS, h.2.2.2.1, h.2.2.2.2⟩
theorem x_B.start (h : x_U D cs base ad n st σ s) : x_B D cs base ad n st σ s s.heap [] :=
  ⟨h.1, h.2.1, va_S.rf, h.2.2.1, h.2.2.2⟩
theorem x_B.at (h : x_B D cs base ad n st σ s H locs) {k i : Nat} (hi : i < n k) : va_at D vwCl (ad k i, x_E cs ad st σ k i) H := (h.2.1.1 k i hi).1
theorem x_B.one (h : x_B D cs base ad n st σ s H locs) {k i : Nat} {e : va_E} (hi : i < n k) (he : x_E cs ad st σ k i = e) : va_P D vwCl [(ad k i, e)] H := by
  intro q x hx
  have hz : q < 1 := (List.getElem?_eq_some_iff.mp hx).1
  rw [show q = 0 by omega] at hx
  cases hx
  rw [← he]
  exact h.at hi
end
/-- the same ints, but at one place of one cell -/
theorem x_fs_set {ad : Nat → Nat → Nat} {st : Nat → Nat} {σ : x_St} {k i j : Nat} {v : Int32} (htp : x_tp k j = none) : (x_fs ad st σ k i).set j (.int v) = x_fs ad st (x_up σ k i j v) k i := by
  apply List.ext_getElem?
  intro q
  by_cases hq : q = j
  · subst hq
    by_cases hl : q < x_N k
    · rw [List.getElem?_set_self (by simpa [x_fs] using hl)]
      simp [x_fs, hl, x_fv, htp, x_up]
    · simp [x_fs, hl]
  · rw [List.getElem?_set_ne (Ne.symm hq)]
    by_cases hl : q < x_N k
    · have h1 : x_up σ k i j v k i q = σ k i q := x_up_n (by simp [hq])
      simp [x_fs, hl, x_fv, h1]
    · simp [x_fs, hl]
theorem x_E_other {cs : Nat → ClassId} {ad : Nat → Nat → Nat} {st : Nat → Nat} {σ : x_St} {k i j a b : Nat} {v : Int32} (h : ¬ (a = k ∧ b = i)) : x_E cs ad st (x_up σ k i j v) a b = x_E cs ad st σ a b := by
  have h1 : x_up σ k i j v a b = σ a b := by
    funext q
    exact x_up_n (fun z => h ⟨z.1, z.2.1⟩)
  have h2 : x_fs ad st (x_up σ k i j v) a b = x_fs ad st σ a b := by
    unfold x_fs
    congr 1
    funext q
    simp [x_fv, h1]
  simp [x_E, h1, h2]
theorem x_H.put {D : va_G} {cs : Nat → ClassId} {base : Nat} {ad : Nat → Nat → Nat} {n st : Nat → Nat} {σ : x_St} {H H1 : Heap} {k i j : Nat} {v : Int32} (h : x_H D cs base ad n st σ H) (hi : i < n k) (he : va_at D vwCl (ad k i, x_E cs ad st (x_up σ k i j v) k i) H1) (oq : ∀ q : Nat, q ≠ ad k i → H1[q]? = H[q]?) : x_H D cs base ad n st (x_up σ k i j v) H1 := by
  refine ⟨fun a b hb => ⟨?_, (h.1 a b hb).2⟩, h.2⟩
  by_cases hab : a = k ∧ b = i
  · obtain ⟨rfl, rfl⟩ := hab
    exact he
  · rw [x_E_other hab]
    exact (h.1 a b hb).1.kept (oq _ (fun z => hab (h.2 a b k i hb hi z)))
theorem x_hin {k : Nat} {q : vw_C} (h : vwCl[k]? = some q) : ∀ w ∈ u_ws q.1 q.2.1 q.2.2, w ∈ Tw := by
  match k, h with
  | 0, h => cases h; exact mi_0
  | 1, h => cases h; exact mi_1
  | 2, h => cases h; exact mi_2
  | 3, h => cases h; exact mi_3
  | 4, h => cases h; exact mi_4
  | 5, h => cases h; exact mi_5
  | 6, h => cases h; exact mi_6
  | 7, h => cases h; exact mi_7
  | k + 8, h => simp [vwCl] at h
