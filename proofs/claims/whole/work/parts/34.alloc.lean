/-! new cells in the system's world: each is adopted under the next name of its kind; fields are linked by a putfield -/
def x_set {α : Type} (f : Nat → α) (k : Nat) (v : α) : Nat → α := fun a => if a = k then v else f a
def x_zr (σ : x_St) (k i : Nat) : x_St := fun a b d => if a = k ∧ b = i then 0 else σ a b d
theorem x_set_s {α : Type} {f : Nat → α} {k : Nat} {v : α} : x_set f k v k = v := by simp [x_set]
theorem x_set_n {α : Type} {f : Nat → α} {k a : Nat} {v : α} (h : a ≠ k) : x_set f k v a = f a := by simp [x_set, h]
theorem x_E_eq {cs : Nat → ClassId} {ad ad' : Nat → Nat → Nat} {st st' : Nat → Nat} {σ σ' : x_St} {a b : Nat} (h1 : ∀ d, σ' a b d = σ a b d) (h2 : ∀ d q, x_tp a d = some q → ((b < st' (100 + q)) ↔ (b < st (100 + q))) ∧ (b < st (100 + q) → ad' q b = ad q b)) (h3 : x_kd a = 3 → ∀ j, ((j < st' a) ↔ (j < st a)) ∧ (j < st a → ad' (x_el a) j = ad (x_el a) j)) : x_E cs ad' st' σ' a b = x_E cs ad st σ a b := by
  have hσ : σ' a b = σ a b := funext h1
  have hf : x_fs ad' st' σ' a b = x_fs ad st σ a b := by
    unfold x_fs
    congr 1
    funext d
    unfold x_fv
    cases hq : x_tp a d with
    | none => simp [h1]
    | some q =>
      obtain ⟨p1, p2⟩ := h2 d q hq
      by_cases hb : b < st (100 + q)
      · simp [p1, hb, p2 hb]
      · simp [p1, hb]
  by_cases h : x_kd a = 3
  · have hr : x_rr ad' st' a = x_rr ad st a := by
      funext j
      obtain ⟨p1, p2⟩ := h3 h j
      by_cases hb : j < st a
      · simp [x_rr, p1, hb, p2 hb]
      · simp [x_rr, p1, hb]
    simp [x_E, h, hr]
  · unfold x_E
    rw [hσ, hf]
    split
    · rfl
    · rfl
    · rfl
    · exact absurd ‹_› h
    · rfl
theorem x_H.re {D : va_G} {cs : Nat → ClassId} {base : Nat} {ad ad' : Nat → Nat → Nat} {n n' st st' : Nat → Nat} {σ σ' : x_St} {H : Heap} (h : x_H D cs base ad n st σ H) (hn : ∀ a b, b < n' a → b < n a) (hA : ∀ a b, b < n' a → ad' a b = ad a b) (hE : ∀ a b, b < n' a → x_E cs ad' st' σ' a b = x_E cs ad st σ a b) : x_H D cs base ad' n' st' σ' H :=
  ⟨fun a b hb => by rw [hA a b hb, hE a b hb]; exact h.1 a b (hn a b hb), fun a b a' b' hb hb' e => h.2 a b a' b' (hn a b hb) (hn a' b' hb') (by rw [← hA a b hb, ← hA a' b' hb']; exact e)⟩
theorem x_B.re {D : va_G} {cs : Nat → ClassId} {base : Nat} {ad ad' : Nat → Nat → Nat} {n n' st st' : Nat → Nat} {σ σ' : x_St} {s : State} {H : Heap} {locs : List Loc} (h : x_B D cs base ad n st σ s H locs) (hn : ∀ a b, b < n' a → b < n a) (hA : ∀ a b, b < n' a → ad' a b = ad a b) (hE : ∀ a b, b < n' a → x_E cs ad' st' σ' a b = x_E cs ad st σ a b) : x_B D cs base ad' n' st' σ' s H locs :=
  ⟨h.1, h.2.1.re hn hA hE, h.2.2⟩
def x_adn (ad : Nat → Nat → Nat) (k i o : Nat) : Nat → Nat → Nat := fun a b => if a = k ∧ b = i then o else ad a b
theorem x_adn_n {ad : Nat → Nat → Nat} {k i o : Nat} : ∀ a b, ¬ (a = k ∧ b = i) → x_adn ad k i o a b = ad a b := fun a b h => by simp [x_adn, h]
theorem x_adopt {D : va_G} {cs : Nat → ClassId} {base : Nat} {ad : Nat → Nat → Nat} {n st : Nat → Nat} {σ : x_St} {s : State} {H H1 : Heap} {locs : List Loc} (hw : x_B D cs base ad n st σ s H locs) {k i : Nat} (hi : n k = i) (hlk : st (100 + k) ≤ i) (hrk : ∀ q, x_kd q = 3 → x_el q = k → st q ≤ i) (z1 : H1.size = H.size + 1) (o1 : ∀ q, q < H.size → H1[q]? = H[q]?) (he : va_at D vwCl (H.size, x_E cs (x_adn ad k i H.size) st (x_zr σ k i) k i) H1) : x_B D cs base (x_adn ad k i H.size) (x_set n k (i + 1)) st (x_zr σ k i) s H1 locs := by
  have hE : ∀ a b, b < n a → x_E cs (x_adn ad k i H.size) st (x_zr σ k i) a b = x_E cs ad st σ a b := by
    intro a b hb
    have hne : ¬ (a = k ∧ b = i) := fun z => by rw [z.1, z.2, hi] at hb; exact Nat.lt_irrefl _ hb
    refine x_E_eq (fun d => by simp [x_zr, hne]) (fun d q hq => ⟨Iff.rfl, fun h => x_adn_n q b fun z => ?_⟩) (fun h3 j => ⟨Iff.rfl, fun h => x_adn_n _ j fun z => ?_⟩)
    · rw [z.1, z.2] at h
      exact absurd h (Nat.not_lt.mpr hlk)
    · have := hrk a h3 z.1
      omega
  have hcase : ∀ a b, b < x_set n k (i + 1) a → (a = k ∧ b = i) ∨ b < n a := by
    intro a b hb
    by_cases ha : a = k
    · subst ha
      rw [x_set_s] at hb
      by_cases hbi : b = i
      · exact Or.inl ⟨rfl, hbi⟩
      · exact Or.inr (by omega)
    · rw [x_set_n ha] at hb
      exact Or.inr hb
  have hb0 : base ≤ H.size := Nat.le_trans hw.2.2.2.1 hw.2.2.1.1
  have hold : ∀ a b, b < n a → x_adn ad k i H.size a b = ad a b := fun a b hb => x_adn_n a b fun z => by rw [z.1, z.2, hi] at hb; exact Nat.lt_irrefl _ hb
  have hnew : x_adn ad k i H.size k i = H.size := by simp [x_adn]
  refine ⟨hw.1, ⟨fun a b hb => ?_, fun a b a' b' hb hb' e => ?_⟩, ⟨by rw [z1]; exact Nat.le_trans hw.2.2.1.1 (Nat.le_succ _), fun q h1 h2 => (o1 q (Nat.lt_of_lt_of_le h1 hw.2.2.1.1)).trans (hw.2.2.1.2.1 q h1 h2), hw.2.2.1.2.2⟩, hw.2.2.2⟩
  · rcases hcase a b hb with ⟨rfl, rfl⟩ | hb
    · rw [hnew]
      exact ⟨he, hb0⟩
    · rw [hold a b hb, hE a b hb]
      exact ⟨(hw.2.1.1 a b hb).1.kept (o1 _ (hw.2.1.1 a b hb).1.lt), (hw.2.1.1 a b hb).2⟩
  · rcases hcase a b hb with ⟨rfl, rfl⟩ | hb2
    · rcases hcase a' b' hb' with ⟨rfl, rfl⟩ | hb'
      · exact ⟨rfl, rfl⟩
      · rw [hnew, hold a' b' hb'] at e
        exact absurd (hw.2.1.1 a' b' hb').1.lt (by show ¬ (ad a' b' < H.size); omega)
    · rcases hcase a' b' hb' with ⟨rfl, rfl⟩ | hb3
      · rw [hnew, hold a b hb2] at e
        exact absurd (hw.2.1.1 a b hb2).1.lt (by show ¬ (ad a b < H.size); omega)
      · rw [hold a b hb2, hold a' b' hb3] at e
        exact hw.2.1.2 a b a' b' hb2 hb3 e
theorem x_rk {st : Nat → Nat} {k i : Nat} (h0 : k = 5 → st 20 ≤ i) (h1 : k = 0 → st 21 ≤ i) (h2 : k = 3 → st 22 ≤ i) (h3 : k = 1 → st 23 ≤ i) (h4 : k = 4 → st 24 ≤ i) : ∀ q, x_kd q = 3 → x_el q = k → st q ≤ i := by
  intro q hq he
  unfold x_kd at hq
  split at hq <;> first | (exfalso; omega) | exact h0 he.symm | exact h1 he.symm | exact h2 he.symm | exact h3 he.symm | exact h4 he.symm
theorem x_rkA {st : Nat → Nat} {k i : Nat} (h : 5 < k) : ∀ q, x_kd q = 3 → x_el q = k → st q ≤ i := x_rk (by omega) (by omega) (by omega) (by omega) (by omega)
theorem x_rk2 {st : Nat → Nat} {i : Nat} : ∀ q, x_kd q = 3 → x_el q = 2 → st q ≤ i := x_rk (by omega) (by omega) (by omega) (by omega) (by omega)
def x_dv (k j : Nat) : Value := match x_tp k j with | none => .int 0 | some _ => .null
theorem x_df0 : ∀ j, j < 9 → defaultValue (tyX0 j) = x_dv 0 j := by decide +kernel
theorem x_df1 : ∀ j, j < 7 → defaultValue (tyX1 j) = x_dv 1 j := by decide +kernel
theorem x_df2 : ∀ j, j < 5 → defaultValue (tyX2 j) = x_dv 2 j := by decide +kernel
theorem x_df3 : ∀ j, j < 4 → defaultValue (tyX3 j) = x_dv 3 j := by decide +kernel
theorem x_df4 : ∀ j, j < 8 → defaultValue (tyX4 j) = x_dv 4 j := by decide +kernel
theorem x_df5 : ∀ j, j < 10 → defaultValue (tyX5 j) = x_dv 5 j := by decide +kernel
theorem x_df6 : ∀ j, j < 14 → defaultValue (tyX6 j) = x_dv 6 j := by decide +kernel
theorem x_df7 : ∀ j, j < 42 → defaultValue (tyX7 j) = x_dv 7 j := by decide +kernel
theorem x_df {k : Nat} {q : vw_C} (h : vwCl[k]? = some q) : ∃ ty0 : Nat → FieldType, (∀ j, j < q.2.2 → parseFieldDescriptor (q.2.1 j).2.2.1 = some (ty0 j)) ∧ ∀ j, j < q.2.2 → defaultValue (ty0 j) = x_dv k j := by
  match k, h with
  | 0, h => cases h; exact ⟨tyX0, tyX0_ok, x_df0⟩
  | 1, h => cases h; exact ⟨tyX1, tyX1_ok, x_df1⟩
  | 2, h => cases h; exact ⟨tyX2, tyX2_ok, x_df2⟩
  | 3, h => cases h; exact ⟨tyX3, tyX3_ok, x_df3⟩
  | 4, h => cases h; exact ⟨tyX4, tyX4_ok, x_df4⟩
  | 5, h => cases h; exact ⟨tyX5, tyX5_ok, x_df5⟩
  | 6, h => cases h; exact ⟨tyX6, tyX6_ok, x_df6⟩
  | 7, h => cases h; exact ⟨tyX7, tyX7_ok, x_df7⟩
  | k + 8, h => simp [vwCl] at h
/-- who a cell of a kind belongs to -/
def x_ow (q : Nat) : Nat × Nat := match q with
  | 10 => (1, 3) | 11 => (2, 0) | 12 => (2, 2) | 13 => (2, 3) | 14 => (2, 4) | 15 => (5, 3) | 16 => (5, 5) | 17 => (5, 6)
  | 20 => (6, 0) | 21 => (6, 2) | 22 => (6, 4) | 23 => (6, 5) | 24 => (6, 7) | 18 => (6, 9) | 2 => (6, 10) | 19 => (6, 11) | q => (7, q - 30)
theorem x_ow_of {a d q : Nat} (h : x_tp a d = some q) : x_ow q = (a, d) := by
  unfold x_tp at h
  split at h
  · split at h <;> simp at h
    subst h; rfl
  · split at h <;> simp at h <;> (subst h; rfl)
  · split at h <;> simp at h <;> (subst h; rfl)
  · split at h <;> simp at h <;> (subst h; rfl)
  · split at h
    · simp at h
      subst h
      unfold x_ow
      split <;> first | omega | simp
    · simp at h
  · simp at h
section XN
variable {p : Program} {l : Launch} {e : Env} {R : Room} {s : State} {m : MethodId} {args : Array Value} {below : List Frame} {meth : Method} {c : Code} {H : Heap} {locs : List Loc} {cells slots : Nat} {Q : State → Prop}
variable {cc : ByteArray} {nL pc : Nat} {own : String} {ls : Array Slot} {rest : List Value} {D : va_G} {cs : Nat → ClassId} {base : Nat} {ad : Nat → Nat → Nat} {n st : Nat → Nat} {σ : x_St}
/-- new -/
theorem xn_obj (hc : CallFix p m c cc nL s args Tw own) (hw : x_B D cs base ad n st σ s H locs) (k i : Nat) {C : String} {T : u_T} {N index : Nat} (hcl : vwCl[k]? = some (C, T, N)) (hkd : x_kd k = 0) (hN : x_N k = N) (hi : n k = i) (hlk : st (100 + k) ≤ i) (hrk : ∀ q, x_kd q = 3 → x_el q = k → st q ≤ i) (hun : ∀ j q, x_tp k j = some q → st (100 + q) ≤ i)
    (hclink : Cond.classLink own index C ∈ Tw) (hinst : Cond.instantiable C N ∈ Tw) (hini : Cond.initialized C ∈ Tw) (hcells : cells + 1 ≤ R.cells) (hslots : slots + N ≤ R.slots) (hdg : decode cc pc = .ok (.new index, 3))
    (kk : ∀ (ad' : Nat → Nat → Nat) (H1 : Heap), (∀ a b, ¬ (a = k ∧ b = i) → ad' a b = ad a b) → x_B D cs base ad' (x_set n k (i + 1)) st (x_zr σ k i) s H1 locs → W p l e R s m args below meth c H1 locs (cells + 1) (slots + N) Q (F0 m (pc + 3) ls (.ref (ad' k i) :: rest))) : W p l e R s m args below meth c H locs cells slots Q (F0 m pc ls rest) := by
  have hts := hc.2.2.2.2
  have hKn := hw.1.1 k _ hcl
  obtain ⟨ty0, hty, hdf⟩ := x_df hcl
  refine W.newcK hc.1 hc.2.1 hc.2.2.2.1 (hts _ hclink) (hts _ hinst) (hts _ hini) rfl hdg hcells hslots hKn.2.1 rfl fun H1 kC hkC e1 z1 o1 => ?_
  have hB := x_adopt hw hi hlk hrk z1 o1 (H1 := H1) (by
    rw [show x_E cs (x_adn ad k i H.size) st (x_zr σ k i) k i = .inr (k, x_fs (x_adn ad k i H.size) st (x_zr σ k i) k i) by simp [x_E, hkd]]
    refine ⟨_, hcl, (u_born ty0 hts (x_hin hcl) hKn hkC e1 hty).to fun j hj => ?_⟩
    rw [hdf j hj]
    have hj' : j < x_N k := by rw [hN]; exact hj
    unfold x_dv vp_V
    cases hq : x_tp k j with
    | none => simp [x_fs, hj', x_fv, hq, x_zr]
    | some q => simp [x_fs, hj', x_fv, hq, Nat.not_lt.mpr (hun j q hq)])
  have := kk (x_adn ad k i H.size) H1 x_adn_n hB
  rwa [show x_adn ad k i H.size k i = H.size by simp [x_adn]] at this
/-- newarray of int -/
theorem xn_iarr (hc : CallFix p m c cc nL s args Tw own) (hw : x_B D cs base ad n st σ s H locs) (k i : Nat) (hkd : x_kd k = 1) (hk5 : 5 < k) (hi : n k = i) (hlk : st (100 + k) ≤ i) {v : Int32} (hv : v = nI (x_len k)) (hcells : cells + 1 ≤ R.cells) (hslots : slots + x_len k ≤ R.slots) (hdg : decode cc pc = .ok (.newarray .int, 2))
    (kk : ∀ (ad' : Nat → Nat → Nat) (H1 : Heap), (∀ a b, ¬ (a = k ∧ b = i) → ad' a b = ad a b) → x_B D cs base ad' (x_set n k (i + 1)) st (x_zr σ k i) s H1 locs → W p l e R s m args below meth c H1 locs (cells + 1) (slots + x_len k) Q (F0 m (pc + 2) ls (.ref (ad' k i) :: rest))) : W p l e R s m args below meth c H locs cells slots Q (F0 m pc ls (.int v :: rest)) := by
  subst hv
  have hL := x_len_lt k
  have hb : x_len k * 4 ≤ 536870912 := by unfold x_len; split <;> decide
  refine va_newaK (N := x_len k) hc.1 hc.2.1 (atype := .int) (hc.2.2.2.2 _ mw_56) rfl hdg rfl (nI_pos hL) (nI_clamp hL) hb hcells hslots rfl fun H1 cA e1 z1 o1 hAr hNm => ?_
  have hcA : cA = cs 0 := Option.some.inj (hNm.symm.trans (hw.1.2 0 _ rfl).2)
  subst hcA
  have hB := x_adopt hw hi hlk (x_rkA hk5) z1 o1 (H1 := H1) (by
    rw [show x_E cs (x_adn ad k i H.size) st (x_zr σ k i) k i = .inl (cs 0, x_len k, .inl (x_zr σ k i k i)) by simp [x_E, hkd]]
    show H1[H.size]? = some (vp_cell _ _)
    rw [vp_cell_i, e1]
    congr 2
    funext q
    simp [x_zr, defaultValue, newarray.typeOf])
  have := kk (x_adn ad k i H.size) H1 x_adn_n hB
  rwa [show x_adn ad k i H.size k i = H.size by simp [x_adn]] at this
/-- newarray of boolean -/
theorem xn_zarr (hc : CallFix p m c cc nL s args Tw own) (hw : x_B D cs base ad n st σ s H locs) (k i : Nat) (hkd : x_kd k = 2) (hk5 : 5 < k) (hi : n k = i) (hlk : st (100 + k) ≤ i) {v : Int32} (hv : v = nI (x_len k)) (hcells : cells + 1 ≤ R.cells) (hslots : slots + x_len k ≤ R.slots) (hdg : decode cc pc = .ok (.newarray .boolean, 2))
    (kk : ∀ (ad' : Nat → Nat → Nat) (H1 : Heap), (∀ a b, ¬ (a = k ∧ b = i) → ad' a b = ad a b) → x_B D cs base ad' (x_set n k (i + 1)) st (x_zr σ k i) s H1 locs → W p l e R s m args below meth c H1 locs (cells + 1) (slots + x_len k) Q (F0 m (pc + 2) ls (.ref (ad' k i) :: rest))) : W p l e R s m args below meth c H locs cells slots Q (F0 m pc ls (.int v :: rest)) := by
  subst hv
  have hL := x_len_lt k
  have hb : x_len k * 1 ≤ 536870912 := by unfold x_len; split <;> decide
  refine va_newaK (N := x_len k) hc.1 hc.2.1 (atype := .boolean) (hc.2.2.2.2 _ mw_814) rfl hdg rfl (nI_pos hL) (nI_clamp hL) hb hcells hslots rfl fun H1 cA e1 z1 o1 hAr hNm => ?_
  have hcA : cA = cs 1 := Option.some.inj (hNm.symm.trans (hw.1.2 1 _ rfl).2)
  subst hcA
  have hB := x_adopt hw hi hlk (x_rkA hk5) z1 o1 (H1 := H1) (by
    rw [show x_E cs (x_adn ad k i H.size) st (x_zr σ k i) k i = .inl (cs 1, x_len k, .inl (x_zr σ k i k i)) by simp [x_E, hkd]]
    show H1[H.size]? = some (vp_cell _ _)
    rw [vp_cell_i, e1]
    congr 2
    funext q
    simp [x_zr, defaultValue, newarray.typeOf])
  have := kk (x_adn ad k i H.size) H1 x_adn_n hB
  rwa [show x_adn ad k i H.size k i = H.size by simp [x_adn]] at this
/-- newarray of long: the law's row -/
theorem xn_larr (hc : CallFix p m c cc nL s args Tw own) (hw : x_B D cs base ad n st σ s H locs) (hi : n 8 = 0) (hlk : st 108 = 0) {v : Int32} (hv : v = 1) (hcells : cells + 1 ≤ R.cells) (hslots : slots + 1 ≤ R.slots) (hdg : decode cc pc = .ok (.newarray .long, 2))
    (kk : ∀ (ad' : Nat → Nat → Nat) (H1 : Heap), (∀ a b, ¬ (a = 8 ∧ b = 0) → ad' a b = ad a b) → x_B D cs base ad' (x_set n 8 1) st (x_zr σ 8 0) s H1 locs → W p l e R s m args below meth c H1 locs (cells + 1) (slots + 1) Q (F0 m (pc + 2) ls (.ref (ad' 8 0) :: rest))) : W p l e R s m args below meth c H locs cells slots Q (F0 m pc ls (.int v :: rest)) := by
  subst hv
  refine va_newaK (N := 1) hc.1 hc.2.1 (atype := .long) (hc.2.2.2.2 _ mw_960) rfl hdg rfl (by decide) (by decide) (by decide) hcells hslots rfl fun H1 cA e1 z1 o1 hAr hNm => ?_
  have hcA : cA = cs 2 := Option.some.inj (hNm.symm.trans (hw.1.2 2 _ rfl).2)
  subst hcA
  have hB := x_adopt hw (k := 8) (i := 0) hi (Nat.le_of_eq hlk) (x_rkA (by decide)) z1 o1 (H1 := H1) (by
    rw [show x_E cs (x_adn ad 8 0 H.size) st (x_zr σ 8 0) 8 0 = .inl (cs 2, 1, .inr (.inl (fun q => (x_zr σ 8 0 8 0 q).toInt64))) from rfl]
    show H1[H.size]? = some (vp_cell _ _)
    rw [vp_cell_l, e1]
    congr 2)
  have := kk (x_adn ad 8 0 H.size) H1 x_adn_n hB
  rwa [show x_adn ad 8 0 H.size 8 0 = H.size by simp [x_adn]] at this
theorem x_ref_C {k t0 : Nat} {C : String} {cs : Nat → ClassId} (ht : (x_tys cs)[t0]? = some (cs k, .object C)) : C ∈ x_Rs := by
  match t0, ht with
  | 0, ht => simp [x_tys] at ht
  | 1, ht => simp [x_tys] at ht
  | 2, ht => simp [x_tys] at ht
  | 3, ht => simp [x_tys] at ht; rw [← ht.2]; decide
  | 4, ht => simp [x_tys] at ht; rw [← ht.2]; decide
  | 5, ht => simp [x_tys] at ht; rw [← ht.2]; decide
  | 6, ht => simp [x_tys] at ht; rw [← ht.2]; decide
  | 7, ht => simp [x_tys] at ht; rw [← ht.2]; decide
  | t + 8, ht => simp [x_tys] at ht
/-- anewarray -/
theorem xn_rarr (hc : CallFix p m c cc nL s args Tw own) (hw : x_B D cs base ad n st σ s H locs) (k i t0 : Nat) {C : String} {index : Nat} (hkd : x_kd k = 3) (hk5 : 5 < k) (hi : n k = i) (hlk : st (100 + k) ≤ i) (hst : st k = 0) (ht : (x_tys cs)[t0]? = some (cs k, .object C)) (hclink : Cond.classLink own index C ∈ Tw) {v : Int32} (hv : v = nI (x_len k)) (hcells : cells + 1 ≤ R.cells) (hslots : slots + x_len k ≤ R.slots) (hdg : decode cc pc = .ok (.anewarray index, 3))
    (kk : ∀ (ad' : Nat → Nat → Nat) (H1 : Heap), (∀ a b, ¬ (a = k ∧ b = i) → ad' a b = ad a b) → x_B D cs base ad' (x_set n k (i + 1)) st (x_zr σ k i) s H1 locs → W p l e R s m args below meth c H1 locs (cells + 1) (slots + x_len k) Q (F0 m (pc + 3) ls (.ref (ad' k i) :: rest))) : W p l e R s m args below meth c H locs cells slots Q (F0 m pc ls (.int v :: rest)) := by
  subst hv
  have hL := x_len_lt k
  have hb : x_len k * 4 ≤ 536870912 := by unfold x_len; split <;> decide
  have hz : (nI (x_len k)).toNatClampNeg = x_len k := nI_clamp hL
  refine W.anew hc.1 hc.2.1 hc.2.2.2.1 (hc.2.2.2.2 _ hclink) (va_AO.use (hw.2.2.2.2.2.2.2.2.2.2.2.2 C (x_ref_C ht))) rfl hdg rfl (nI_pos hL) (by rw [hz]; exact hb) hcells (by rw [hz]; exact hslots) fun cA kA comp f1 f2 f3 f4 => ?_
  obtain ⟨kA', comp', g1, g2, g3, g4⟩ := (hw.1.2 t0 _ ht).2
  have hcA : cA = cs k := Option.some.inj (f1.symm.trans g4)
  subst hcA
  rw [hz]
  generalize hH1 : H.push ({ cls := cs k, slots := Array.replicate (x_len k) .null, vm := .none } : Cell) = H1
  have z1 : H1.size = H.size + 1 := by rw [← hH1, Array.size_push]
  have e1 : H1[H.size]? = some (arrV (cs k) (x_len k) (fun _ => .null)) := by rw [← hH1, Array.getElem?_push_size, ← arrV_new]
  have o1 : ∀ q : Nat, q < H.size → H1[q]? = H[q]? := fun q hq => by rw [← hH1, Array.getElem?_push, if_neg (Nat.ne_of_lt hq)]
  have hB := x_adopt hw hi hlk (x_rkA hk5) z1 o1 (H1 := H1) (by
    rw [show x_E cs (x_adn ad k i H.size) st (x_zr σ k i) k i = .inl (cs k, x_len k, .inr (.inr (.inr (.inr (x_rr (x_adn ad k i H.size) st k))))) by simp [x_E, hkd]]
    show H1[H.size]? = some (vp_cell _ _)
    rw [vp_cell_q, e1]
    congr 2
    funext q
    simp [x_rr, hst, va_rf])
  have := kk (x_adn ad k i H.size) H1 x_adn_n hB
  rwa [show x_adn ad k i H.size k i = H.size by simp [x_adn]] at this
/-- putfield of a final field in a constructor: an int -/
theorem xp_F (hc : CallFix p m c cc nL s args Tw own) (hw : x_B D cs base ad n st σ s H locs) (hnm2 : meth.name = "<init>") (k i j : Nat) {C : String} {T : u_T} {N index : Nat} {ty : FieldType} {v : Int32} (hcl : vwCl[k]? = some (C, T, N)) (hkd : x_kd k = 0) (hN : x_N k = N) (htp : x_tp k j = none) (hj : j < N) (hi : i < n k) (hfin : (T j).2.2.2 = true) (hdecl : (T j).1 = own) (hd : parseFieldDescriptor (T j).2.2.1 = some ty) (hn : narrow ty (.int v) = .int v) (hfit : fits ty (.int v) = true) (hlink : Cond.fieldLink own index (T j).1 (T j).2.1 (T j).2.2.1 ∈ Tw) (hdg : decode cc pc = .ok (.putfield index, 3))
    (kk : ∀ (H1 : Heap) (locs1 : List Loc), x_B D cs base ad n st (x_up σ k i j v) s H1 locs1 → W p l e R s m args below meth c H1 locs1 cells slots Q (F0 m (pc + 3) ls rest)) : W p l e R s m args below meth c H locs cells slots Q (F0 m pc ls (.int v :: .ref (ad k i) :: rest)) := by
  obtain ⟨ty0, hty⟩ := x_ty hcl
  have hnm := x_nm hcl
  have hts := hc.2.2.2.2
  have hin := x_hin hcl
  have hap := va_apart (own := own) hts hin ty0 hty hnm hw.1 hcl
  have hat := hw.at hi
  rw [show x_E cs ad st σ k i = .inr (k, x_fs ad st σ k i) by simp [x_E, hkd]] at hat
  obtain ⟨r, h1, cell, q1, q2, q3, q4⟩ := hat
  have hr : r = (C, T, N) := Option.some.inj (h1.symm.trans hcl)
  subst hr
  obtain ⟨hS, hfc, kC, hkC, hkind⟩ := hw.1.1 k _ hcl
  obtain ⟨cf, kf, fi, f, hi', hsl⟩ := hS j hj
  have hlay := hts _ (hin _ (u_in_lay hj))
  unfold u_lay at hlay
  rw [if_pos hfin] at hlay
  have hst := (u_facts hfc hkC (u_lays hts hin hj) hi').1
  have hcf : m.cls = cf := by
    obtain ⟨_, _, c', _, _, _, -, -, hf', -, -, -, hown2, -⟩ := Cond.laysFinal_spec hlay
    have e1 : c' = cf := by have := hi'.symm.trans hf'; simp at this; exact this.1.symm
    rw [hdecl] at hown2
    rw [← e1]; exact Option.some.inj (hc.2.2.2.1.symm.trans hown2)
  have h6 := u_fits hfc hkC hkind (Or.inr hlay) hi' hd hn hfit
  refine W.putFinK hc.1 hc.2.1 hc.2.2.2.1 (hts _ hlink) hi' hst hcf hnm2 (by rw [q2]; exact h6) q1 q3 (by rw [hsl]; exact k2_hasslot (q4 j hj)) rfl rfl hdg fun H' e1 e2 e3 => ?_
  rw [hsl] at e1 ⊢
  refine kk H' _ ⟨hw.1, hw.2.1.put hi ?_ e3, hw.2.2.1.put e2 e3 (hw.2.1.1 k i hi).2, hw.2.2.2⟩
  rw [show x_E cs ad st (x_up σ k i j v) k i = .inr (k, x_fs ad st (x_up σ k i j v) k i) by simp [x_E, hkd], ← x_fs_set htp]
  exact ⟨_, hcl, t_OB.to (V := updV (vp_V (x_fs ad st σ k i)) j (.int v)) ⟨_, e1, q2, q3, t_set q4 hap hj (.int v)⟩ (fun q _ => vp_updV_set (by simpa [x_fs, hN] using hj) (.int v) q)⟩
/-- putfield of a final reference in a constructor: the field is linked -/
theorem xp_L (hc : CallFix p m c cc nL s args Tw own) (hw : x_B D cs base ad n st σ s H locs) (hnm2 : meth.name = "<init>") (k i j k' : Nat) {C : String} {T : u_T} {N index : Nat} {ty : FieldType} (hcl : vwCl[k]? = some (C, T, N)) (hkd : x_kd k = 0) (hN : x_N k = N) (htp : x_tp k j = some k') (hk0 : x_kd k' = 3 → k' < 100) (hj : j < N) (hi : i < n k) (hst0 : st (100 + k') = i) (hfin : (T j).2.2.2 = true) (hdecl : (T j).1 = own) (hd : parseFieldDescriptor (T j).2.2.1 = some ty) (hn : narrow ty (.ref (ad k' i)) = .ref (ad k' i)) (hfit : fits ty (.ref (ad k' i)) = true) (hlink : Cond.fieldLink own index (T j).1 (T j).2.1 (T j).2.2.1 ∈ Tw) (hdg : decode cc pc = .ok (.putfield index, 3))
    (kk : ∀ (H1 : Heap) (locs1 : List Loc), x_B D cs base ad n (x_set st (100 + k') (i + 1)) σ s H1 locs1 → W p l e R s m args below meth c H1 locs1 cells slots Q (F0 m (pc + 3) ls rest)) : W p l e R s m args below meth c H locs cells slots Q (F0 m pc ls (.ref (ad k' i) :: .ref (ad k i) :: rest)) := by
  obtain ⟨ty0, hty⟩ := x_ty hcl
  have hnm := x_nm hcl
  have hts := hc.2.2.2.2
  have hin := x_hin hcl
  have hap := va_apart (own := own) hts hin ty0 hty hnm hw.1 hcl
  have hat := hw.at hi
  rw [show x_E cs ad st σ k i = .inr (k, x_fs ad st σ k i) by simp [x_E, hkd]] at hat
  obtain ⟨r, h1, cell, q1, q2, q3, q4⟩ := hat
  have hr : r = (C, T, N) := Option.some.inj (h1.symm.trans hcl)
  subst hr
  obtain ⟨hS, hfc, kC, hkC, hkind⟩ := hw.1.1 k _ hcl
  obtain ⟨cf, kf, fi, f, hi', hsl⟩ := hS j hj
  have hlay := hts _ (hin _ (u_in_lay hj))
  unfold u_lay at hlay
  rw [if_pos hfin] at hlay
  have hst := (u_facts hfc hkC (u_lays hts hin hj) hi').1
  have hcf : m.cls = cf := by
    obtain ⟨_, _, c', _, _, _, -, -, hf', -, -, -, hown2, -⟩ := Cond.laysFinal_spec hlay
    have e1 : c' = cf := by have := hi'.symm.trans hf'; simp at this; exact this.1.symm
    rw [hdecl] at hown2
    rw [← e1]; exact Option.some.inj (hc.2.2.2.1.symm.trans hown2)
  have h6 := u_fits hfc hkC hkind (Or.inr hlay) hi' hd hn hfit
  refine W.putFinK hc.1 hc.2.1 hc.2.2.2.1 (hts _ hlink) hi' hst hcf hnm2 (by rw [q2]; exact h6) q1 q3 (by rw [hsl]; exact k2_hasslot (q4 j hj)) rfl rfl hdg fun H' e1 e2 e3 => ?_
  rw [hsl] at e1 ⊢
  have hE : ∀ a b, b < n a → ¬ (a = k ∧ b = i) → x_E cs ad (x_set st (100 + k') (i + 1)) σ a b = x_E cs ad st σ a b := by
    intro a b hb hne
    refine x_E_eq (fun d => rfl) (fun d q hq => ⟨?_, fun _ => rfl⟩) (fun h3 jj => ⟨?_, fun _ => rfl⟩)
    · by_cases hqk : q = k'
      · subst hqk
        have h9 := (x_ow_of hq).symm.trans (x_ow_of htp)
        have ha : a = k := congrArg Prod.fst h9
        have hbi : b ≠ i := fun z => hne ⟨ha, z⟩
        rw [x_set_s, hst0]
        omega
      · rw [x_set_n (by omega)]
    · have : a ≠ 100 + k' := by
        intro z
        unfold x_kd at h3
        split at h3 <;> omega
      rw [x_set_n this]
  refine kk H' _ ⟨hw.1, ⟨fun a b hb => ⟨?_, (hw.2.1.1 a b hb).2⟩, hw.2.1.2⟩, hw.2.2.1.put e2 e3 (hw.2.1.1 k i hi).2, hw.2.2.2⟩
  by_cases hab : a = k ∧ b = i
  · obtain ⟨rfl, rfl⟩ := hab
    have hset : x_fs ad (x_set st (100 + k') (b + 1)) σ a b = (x_fs ad st σ a b).set j (.ref (ad k' b)) := by
      apply List.ext_getElem?
      intro q
      by_cases hq : q = j
      · subst hq
        by_cases hl : q < x_N a
        · rw [List.getElem?_set_self (by simpa [x_fs] using hl)]
          simp [x_fs, hl, x_fv, htp, x_set]
        · simp [x_fs, hl]
      · rw [List.getElem?_set_ne (Ne.symm hq)]
        by_cases hl : q < x_N a
        · simp only [x_fs, List.getElem?_map, List.getElem?_range hl, Option.map_some, x_fv]
          cases hq2 : x_tp a q with
          | none => simp
          | some q' =>
            have hne : 100 + q' ≠ 100 + k' := by
              intro z
              have hz : q' = k' := by omega
              subst hz
              exact hq (congrArg Prod.snd ((x_ow_of hq2).symm.trans (x_ow_of htp)))
            simp [x_set_n hne]
        · simp [x_fs, hl]
    rw [show x_E cs ad (x_set st (100 + k') (b + 1)) σ a b = .inr (a, x_fs ad (x_set st (100 + k') (b + 1)) σ a b) by simp [x_E, hkd], hset]
    exact ⟨_, hcl, t_OB.to (V := updV (vp_V (x_fs ad st σ a b)) j (.ref (ad k' b))) ⟨_, e1, q2, q3, t_set q4 hap hj (.ref (ad k' b))⟩ (fun q _ => vp_updV_set (by simpa [x_fs, hN] using hj) (.ref (ad k' b)) q)⟩
  · rw [hE a b hb hab]
    exact (hw.2.1.1 a b hb).1.kept (e3 _ (fun z => hab (hw.2.1.2 a b k i hb hi z)))
/-- Object.<init> -/
theorem xo_init (hc : CallFix p m c cc nL s args Tw own) {index a : Nat} (hlink : Cond.methodLink own index ({ cls := "java/lang/Object", name := "<init>", desc := "()V" } : MethodName) ∈ Tw) (hsz : ls.size = nL) (hcat : (rest.map fun v => v.category).sum ≤ 8) (hR : 1 ≤ R.frames ∧ 20 ≤ R.locals) (hdg : decode cc pc = .ok (.invokespecial index, 3))
    (kk : W p l e R s m args below meth c H locs cells slots Q (F0 m (pc + 3) ls rest)) : W p l e R s m args below meth c H locs cells slots Q (F0 m pc ls (.ref a :: rest)) :=
  W.objInit hc.1 hc.2.1 hc.2.2.2.1 (hc.2.2.2.2 _ hlink) (hc.2.2.2.2 _ mw_22) (hc.2.2.2.2 _ mw_23) rfl (by rw [hc.2.2.1]; exact hsz) rfl hdg hR.1 (by show 2 * 0 + _ + 12 ≤ _; omega) kk
variable {y : MethodName} {cc' : ByteArray} {nL' d mc ms index np : Nat}
variable {S : Type} {fa : S → Nat → Nat → Nat} {fn fs : S → Nat → Nat} {fσ : S → x_St}
/-- a constructor's call -/
theorem xc_Iv (hc : CallFix p m c cc nL s args Tw own) (hw : x_B D cs base ad n st σ s H locs) {b : Nat} {av : List Value} {post : S → Prop} (hM : x_Cv l y cc' nL' d mc ms D cs base ad n st σ (.ref b :: av) post (fun u => x_U D cs base (fa u) (fn u) (fs u) (fσ u)))
    (hcode : Cond.code y cc' nL' none ∈ Tw) (hlink : Cond.methodLink own index y ∈ Tw) (hini : Cond.initialized y.cls ∈ Tw) (hins : Cond.instanceMethod y ∈ Tw) (hy : y.name = "<init>") (hd : x_cd y av.length) (hR : d + 1 ≤ R.frames ∧ 8 + (nL' + 11) + 40 * d ≤ R.locals) {stk : List Value} (hstk : stk = av.reverse ++ .ref b :: rest)
    (hsz : ls.size = nL) (hcat : (rest.map fun v => v.category).sum ≤ 8) (hdg : decode cc pc = .ok (.invokespecial index, 3)) (hf : cells + mc ≤ R.cells ∧ slots + ms ≤ R.slots)
    (kk : ∀ (u : S) (H1 : Heap) (locs1 : List Loc), post u → x_B D cs base (fa u) (fn u) (fs u) (fσ u) s H1 locs1 → W p l e R s m args below meth c H1 locs1 (cells + mc) (slots + ms) Q (F0 m (pc + 3) ls rest)) : W p l e R s m args below meth c H locs cells slots Q (F0 m pc ls stk) := by
  refine va_callv (va_runI (As := av) (rest := rest) (b := b) hc hM ⟨x_cb hc hcode hlink hini hd hR, hy, hc.2.2.2.2 _ hins⟩ (x_preS hw (.ref b :: av)) rfl rfl hsz hstk (by show 2 * 0 + _ ≤ 8; omega) hdg hf) hw.2.2.1 (fun q _ h => h) (fun q h => h) (fun u t H1 locs1 ht hvm hp hB hz hk hS => ?_)
  exact kk u H1 locs1 hp (hw.back ht hB hS)
theorem xc_INv (hc : CallFix p m c cc nL s args Tw own) (hw : x_B D cs base ad n st σ s H locs) {b : Nat} {av : List Value} {host : String} {post : S → Prop} (hM : x_Cv l y cc' nL' d mc ms D cs base ad n st σ (.ref b :: av) post (fun u => x_U D cs base (fa u) (fn u) (fs u) (fσ u)))
    (hcode : Cond.code y cc' nL' none ∈ Tw) (hlink : Cond.methodLinkNest own index y host ∈ x_Nws) (hini : Cond.initialized y.cls ∈ Tw) (hins : Cond.instanceMethod y ∈ Tw) (hy : y.name = "<init>") (hd : x_cd y av.length) (hR : d + 1 ≤ R.frames ∧ 8 + (nL' + 11) + 40 * d ≤ R.locals) {stk : List Value} (hstk : stk = av.reverse ++ .ref b :: rest)
    (hsz : ls.size = nL) (hcat : (rest.map fun v => v.category).sum ≤ 8) (hdg : decode cc pc = .ok (.invokespecial index, 3)) (hf : cells + mc ≤ R.cells ∧ slots + ms ≤ R.slots)
    (kk : ∀ (u : S) (H1 : Heap) (locs1 : List Loc), post u → x_B D cs base (fa u) (fn u) (fs u) (fσ u) s H1 locs1 → W p l e R s m args below meth c H1 locs1 (cells + mc) (slots + ms) Q (F0 m (pc + 3) ls rest)) : W p l e R s m args below meth c H locs cells slots Q (F0 m pc ls stk) := by
  refine va_callv (va_runIN (As := av) (rest := rest) (b := b) hc hM ⟨va_cnB av.length hc.2.2.2.2 (x_good hcode) rfl rfl rfl (hw.2.2.2.2.2.2.2.2.1 _ hlink) (hc.2.2.2.2 _ hini) hd hR, hy, hc.2.2.2.2 _ hins⟩ (x_preS hw (.ref b :: av)) rfl rfl hsz hstk (by show 2 * 0 + _ ≤ 8; omega) hdg hf) hw.2.2.1 (fun q _ h => h) (fun q h => h) (fun u t H1 locs1 ht hvm hp hB hz hk hS => ?_)
  exact kk u H1 locs1 hp (hw.back ht hB hS)
end XN
