def f_fi (σ : x_St) (k i : Nat) (v : Int32) (j : Nat) : x_St := fun a b d => if a = k ∧ b = i ∧ d < j then v else σ a b d
theorem f_fi_0 (σ : x_St) (k i : Nat) (v : Int32) : f_fi σ k i v 0 = σ := by
  funext a b d
  simp [f_fi]
theorem f_fi_s {σ : x_St} {k i j : Nat} {v : Int32} : x_up (f_fi σ k i v j) k i j v = f_fi σ k i v (j + 1) := by
  funext a b d
  simp only [f_fi, x_up]
  by_cases h : a = k ∧ b = i
  · obtain ⟨rfl, rfl⟩ := h
    by_cases hd : d = j
    · subst hd; simp
    · have : d < j ↔ d < j + 1 := by omega
      simp [hd, this]
  · have h1 : ¬ (a = k ∧ b = i ∧ d = j) := fun q => h ⟨q.1, q.2.1⟩
    have h2 : ¬ (a = k ∧ b = i ∧ d < j) := fun q => h ⟨q.1, q.2.1⟩
    have h3 : ¬ (a = k ∧ b = i ∧ d < j + 1) := fun q => h ⟨q.1, q.2.1⟩
    rw [if_neg h1, if_neg h2, if_neg h3]
section XA
variable {p : Program} {l : Launch} {e : Env} {R : Room} {s : State} {m : MethodId} {args : Array Value} {below : List Frame} {meth : Method} {c : Code} {cc : ByteArray} {nL : Nat} {own : String} {D : va_G} {cs : Nat → ClassId} {base : Nat} {ad : Nat → Nat → Nat} {n st : Nat → Nat} {σ : x_St} {H : Heap} {locs : List Loc} {cells slots pc : Nat} {ls : Array Slot} {rest : List Value}
theorem xa_len {Q : State → Prop} (hc : CallFix p m c cc nL s args Tw own) (hw : x_B D cs base ad n st σ s H locs) (k i : Nat) (hkd : x_kd k = 1) (hi : i < n k) (hdg : decode cc pc = .ok (.arraylength, 1))
    (kk : W p l e R s m args below meth c H locs cells slots Q (F0 m (pc + 1) ls (.int (nI (x_len k)) :: rest))) : W p l e R s m args below meth c H locs cells slots Q (F0 m pc ls (.ref (ad k i) :: rest)) := by
  have hP := hw.one hi (e := .inl (cs 0, x_len k, .inl (σ k i))) (by simp [x_E, hkd])
  exact va_alen hc.1 hc.2.1 hw.1 hP 0 0 rfl rfl rfl hdg kk
end XA
def f_bt9 (σ : x_St) (i pl z : Nat) : Int32 := m_th (f_G σ i) 6 6 pl z
theorem f_bt9_ok {σ : x_St} {i : Nat} (hG : ∀ q, q < 36 → ∃ t, t ≤ 9 ∧ σ 15 i q = nI t) (pl z : Nat) : ∃ t, t ≤ 9 ∧ f_bt9 σ i pl z = nI t :=
  m_th_ok fun y x h1 h2 => hG (6 * y + x) (by omega)
/-- the gains of the first N places, size by size -/
def f_rG (σ : x_St) (i N : Nat) : x_St := fun a b d => if a = 12 ∧ b = 0 ∧ 36 ≤ d ∧ d < 36 + N then σ 11 0 (10 * (d / 36) + x_c (f_bt9 σ i (d % 36) (d / 36))) else σ a b d
theorem f_rG_0 (σ : x_St) (i : Nat) : f_rG σ i (36 * (1 - 1)) = σ := by
  funext a b d
  rw [f_rG, if_neg (by omega)]
theorem f_rG_k {σ : x_St} {i N a b d : Nat} (h : a ≠ 12) : f_rG σ i N a b d = σ a b d := if_neg fun q => h q.1
theorem f_rG_G {σ : x_St} {i N : Nat} : f_G (f_rG σ i N) i = f_G σ i := by
  funext y x
  exact f_rG_k (by decide)
theorem x_36z {z pl : Nat} : nI z * 36 + nI pl = nI (36 * z + pl) := by
  rw [show (36 : Int32) = nI 36 from rfl, pk_mul, nI_add, Nat.mul_comm]
theorem f_rG_s {σ : x_St} {i z pl t : Nat} (hz : 1 ≤ z) (hp : pl < 36) (ht : f_bt9 σ i pl z = nI t) (h9 : t < 2 ^ 31) : x_up (f_rG σ i (36 * (z - 1) + pl)) 12 0 (36 * z + pl) (f_rG σ i (36 * (z - 1) + pl) 11 0 (10 * z + t)) = f_rG σ i (36 * (z - 1) + (pl + 1)) := by
  funext a b d
  rw [x_up]
  by_cases h : a = 12 ∧ b = 0 ∧ d = 36 * z + pl
  · obtain ⟨rfl, rfl, rfl⟩ := h
    rw [if_pos ⟨rfl, rfl, rfl⟩, f_rG_k (by decide), f_rG, if_pos ⟨rfl, rfl, by omega, by omega⟩]
    rw [show (36 * z + pl) / 36 = z by omega, show (36 * z + pl) % 36 = pl by omega, ht, x_cn h9]
  · rw [if_neg h, f_rG, f_rG]
    by_cases h2 : a = 12 ∧ b = 0 ∧ 36 ≤ d ∧ d < 36 + (36 * (z - 1) + pl)
    · rw [if_pos h2, if_pos ⟨h2.1, h2.2.1, h2.2.2.1, by omega⟩]
    · rw [if_neg h2, if_neg (fun q => by
        by_cases h3 : d = 36 * z + pl
        · exact h ⟨q.1, q.2.1, h3⟩
        · exact h2 ⟨q.1, q.2.1, q.2.2.1, by omega⟩)]

/-- J7_fill_53178 -/
def q_J7_fill_53178 (σ : x_St) (k9 i : Nat) (v : Int32) : x_St → Prop := fun σ' => σ' = f_fi σ k9 i v (x_len k9)
set_option maxHeartbeats 4000000 in
set_option maxRecDepth 100000 in
theorem c_J7_fill_53178 {l : Launch} {D : va_G} {cs : Nat → ClassId} {base : Nat} {ad : Nat → Nat → Nat} {n st : Nat → Nat} {σ : x_St} (k9 i : Nat) (v : Int32) (hkd : x_kd k9 = 1) (hi : i < n k9) : x_Cv l yJ7_fill_53178 cJ7_fill_53178 4 1 0 0 D cs base ad n st σ [.ref (ad k9 i), .int v] (q_J7_fill_53178 σ k9 i v) (fun σ' => x_U D cs base ad n st σ') := by
  refine Met.ofW (cc := cJ7_fill_53178) (maxL := 4) (ret := none) (by decide) rfl ?_
  intro p e s m args below meth c s₁ B hml hv
  obtain ⟨rfl, hU⟩ := hv
  have hx := B.exec
  have hb := B.bytes
  have hr := B.returns
  have hts := atoms_spec (ws := Cond.code yJ7_fill_53178 cJ7_fill_53178 4 (none) :: Tw) B.pre
  have hown : s.vm.findClass RJ7 = some m.cls := findClass_of_methodNamed B.named
  have hlocks := B.notSynchronized
  have hc : CallFix p m c cJ7_fill_53178 4 s (([.ref (ad k9 i), .int v] : List Value).toArray) Tw RJ7 := ⟨hx, hb, hml, hown, fun w hw => hts w (List.mem_cons_of_mem _ hw)⟩
  have hw := x_B.start hU
  have hl := lv_entry ([.ref (ad k9 i), .int v]) (n := 4) (Nat.le_of_ble_eq_true rfl)
  rw [lg_entry_eq]
  generalize (lg_sl ([.ref (ad k9 i), .int v]) ++ List.replicate (4 - (lg_sl ([.ref (ad k9 i), .int v])).length) Slot.unset).toArray = ls at hl ⊢
  have hl : lv_has ls 4 [(0, .ref (ad k9 i)), (1, .int v)] := hl
  show W p l e (x_rm 1 0 0) s m ([.ref (ad k9 i), .int v] : List Value).toArray below meth c s.heap [] 0 0 (MQ below (va_Qv (q_J7_fill_53178 σ k9 i v) (fun σ' => x_U D cs base ad n st σ') (x_A base)) ([.ref (ad k9 i), .int v] : List Value).toArray s 0 0 (x_A base)) (F0 m 0 ls [])
  refine lv_iconst (v := 0) hx hb dJ7_fill_53178_0 (by decide) ?_
  refine lv_istore_n (lv' := [(2, .int 0), (0, .ref (ad k9 i)), (1, .int v)]) hx hb dJ7_fill_53178_1 rfl hl (by decide) rfl (fun ls hl => ?_)
  refine lv_aload_n hx hb dJ7_fill_53178_2 rfl (lv_at hl 1 rfl) ?_
  refine xa_len hc hw k9 i hkd (hi) dJ7_fill_53178_3 ?_
  refine lv_topi (fun x3_4 ex3_4 => ?_)
  refine lv_istore_n (lv' := [(3, .int x3_4), (2, .int 0), (0, .ref (ad k9 i)), (1, .int v)]) hx hb dJ7_fill_53178_4 rfl hl (by decide) rfl (fun ls hl => ?_)
  have cut_5 : ∀ (N : Nat) (j9 : Nat) (x2 : Int32), (j9 ≤ x_len k9) → (x2 = nI j9) → (x_len k9 - j9 < N) → ∀ (H : Heap) (locs : List Loc) (ls : Array Slot), lv_has ls 4 [(0, .ref (ad k9 i)), (1, .int v), (2, .int x2), (3, .int x3_4)] → x_B D cs base ad n st (f_fi σ k9 i v j9) s H locs → W p l e (x_rm 1 0 0) s m ([.ref (ad k9 i), .int v] : List Value).toArray below meth c H locs 0 0 (MQ below (va_Qv (q_J7_fill_53178 σ k9 i v) (fun σ' => x_U D cs base ad n st σ') (x_A base)) ([.ref (ad k9 i), .int v] : List Value).toArray s 0 0 (x_A base)) (F0 m 5 ls []) := by
    intro N
    induction N with
    | zero => intro j9 x2 hj9 h2 hN; exact absurd hN (Nat.not_lt_zero _)
    | succ N ih_5 =>
      intro j9 x2 hj9 h2 hN H locs ls hl hw
      refine lv_iload_n hx hb dJ7_fill_53178_5 rfl (lv_at hl 2 rfl) ?_
      refine lv_iload_n hx hb dJ7_fill_53178_6 rfl (lv_at hl 3 rfl) ?_
      refine lv_icmp_ge (tgt := 20) hx hb dJ7_fill_53178_7 (by decide) (fun c_7 => ?_) (fun c_7 => ?_)
      · exact xr_v hc hlocks hr hw (by have hz := x_ge h2 ex3_4 (Nat.lt_of_le_of_lt hj9 (x_len_lt k9)) (x_len_lt k9) c_7; rw [show j9 = x_len k9 by omega]; rfl) (Nat.le_of_ble_eq_true rfl) (Nat.le_of_ble_eq_true rfl) dJ7_fill_53178_20
      · have hjl : j9 < x_len k9 := x_nge h2 (ex3_4) (Nat.lt_of_le_of_lt hj9 (x_len_lt k9)) (x_len_lt k9) c_7
        refine lv_aload_n hx hb dJ7_fill_53178_10 rfl (lv_at hl 0 rfl) ?_
        refine lv_iload_n hx hb dJ7_fill_53178_11 rfl (lv_at hl 2 rfl) ?_
        refine lv_iload_n hx hb dJ7_fill_53178_12 rfl (lv_at hl 1 rfl) ?_
        refine xa_st hc hw k9 i j9 hkd (hi) (h2) (hjl) dJ7_fill_53178_13 (fun H locs hw => ?_)
        obtain ⟨x2_14, ex2_14⟩ : ∃ y : Int32, y = x2 + 1 := ⟨_, rfl⟩
        refine lv_iinc (v := x2_14) (lv' := [(2, .int x2_14), (0, .ref (ad k9 i)), (1, .int v), (3, .int x3_4)]) hx hb dJ7_fill_53178_14 hl (k := 2) rfl (by rw [ex2_14]; rfl) (by decide) rfl (fun ls hl => ?_)
        refine lv_goto (tgt := 5) hx hb dJ7_fill_53178_17 (by decide) ?_
        rw [f_fi_s] at hw
        exact ih_5 (j9 + 1) _ (hjl) (by rw [ex2_14, h2, nI_1]) (by omega) _ _ _ (lv_sub hl [1, 2, 0, 3] rfl) hw
  rw [← f_fi_0 σ k9 i v] at hw
  exact cut_5 _ 0 _ (Nat.zero_le _) (rfl) (Nat.lt_succ_self _) _ _ _ (lv_sub hl [2, 3, 1, 0] rfl) hw
/-- X2_reckonGains -/
def q_X2_reckonGains (σ : x_St) (i : Nat) : x_St → Prop := fun σ' => σ' = f_rG σ i 108
set_option maxHeartbeats 4000000 in
set_option maxRecDepth 100000 in
theorem c_X2_reckonGains {l : Launch} {D : va_G} {cs : Nat → ClassId} {base : Nat} {ad : Nat → Nat → Nat} {nS nB nC nO : Nat} {σ : x_St} (i : Nat) (hi : i < nS) (hG : ∀ q, q < 36 → ∃ t, t ≤ 9 ∧ σ 15 i q = nI t) : x_Cv l yX2_reckonGains cX2_reckonGains 5 2 0 0 D cs base ad (x_n nS nB nC nO) (x_s nS nB nC nO nS nC) σ [.ref (ad 2 0), .ref (ad 5 i)] (q_X2_reckonGains σ i) (fun σ' => x_U D cs base ad (x_n nS nB nC nO) (x_s nS nB nC nO nS nC) σ') := by
  refine Met.ofW (cc := cX2_reckonGains) (maxL := 5) (ret := none) (by decide) rfl ?_
  intro p e s m args below meth c s₁ B hml hv
  obtain ⟨rfl, hU⟩ := hv
  have hx := B.exec
  have hb := B.bytes
  have hr := B.returns
  have hts := atoms_spec (ws := Cond.code yX2_reckonGains cX2_reckonGains 5 (none) :: Tw) B.pre
  have hown : s.vm.findClass RX2 = some m.cls := findClass_of_methodNamed B.named
  have hlocks := B.notSynchronized
  have hc : CallFix p m c cX2_reckonGains 5 s (([.ref (ad 2 0), .ref (ad 5 i)] : List Value).toArray) Tw RX2 := ⟨hx, hb, hml, hown, fun w hw => hts w (List.mem_cons_of_mem _ hw)⟩
  have hw := x_B.start hU
  have hl := lv_entry ([.ref (ad 2 0), .ref (ad 5 i)]) (n := 5) (Nat.le_of_ble_eq_true rfl)
  rw [lg_entry_eq]
  generalize (lg_sl ([.ref (ad 2 0), .ref (ad 5 i)]) ++ List.replicate (5 - (lg_sl ([.ref (ad 2 0), .ref (ad 5 i)])).length) Slot.unset).toArray = ls at hl ⊢
  have hl : lv_has ls 5 [(0, .ref (ad 2 0)), (1, .ref (ad 5 i))] := hl
  show W p l e (x_rm 2 0 0) s m ([.ref (ad 2 0), .ref (ad 5 i)] : List Value).toArray below meth c s.heap [] 0 0 (MQ below (va_Qv (q_X2_reckonGains σ i) (fun σ' => x_U D cs base ad (x_n nS nB nC nO) (x_s nS nB nC nO nS nC) σ') (x_A base)) ([.ref (ad 2 0), .ref (ad 5 i)] : List Value).toArray s 0 0 (x_A base)) (F0 m 0 ls [])
  refine lv_iconst (v := 1) hx hb dX2_reckonGains_0 (by decide) ?_
  refine lv_istore_n (lv' := [(2, .int 1), (0, .ref (ad 2 0)), (1, .ref (ad 5 i))]) hx hb dX2_reckonGains_1 rfl hl (by decide) rfl (fun ls hl => ?_)
  have cut_2 : ∀ (N : Nat) (z : Nat) (x2 : Int32), (1 ≤ z ∧ z ≤ 4) → (x2 = nI z) → (4 - z < N) → ∀ (H : Heap) (locs : List Loc) (ls : Array Slot), lv_has ls 5 [(0, .ref (ad 2 0)), (1, .ref (ad 5 i)), (2, .int x2)] → x_B D cs base ad (x_n nS nB nC nO) (x_s nS nB nC nO nS nC) (f_rG σ i (36 * (z - 1))) s H locs → W p l e (x_rm 2 0 0) s m ([.ref (ad 2 0), .ref (ad 5 i)] : List Value).toArray below meth c H locs 0 0 (MQ below (va_Qv (q_X2_reckonGains σ i) (fun σ' => x_U D cs base ad (x_n nS nB nC nO) (x_s nS nB nC nO nS nC) σ') (x_A base)) ([.ref (ad 2 0), .ref (ad 5 i)] : List Value).toArray s 0 0 (x_A base)) (F0 m 2 ls []) := by
    intro N
    induction N with
    | zero => intro z x2 hz h2 hN; exact absurd hN (Nat.not_lt_zero _)
    | succ N ih_2 =>
      intro z x2 hz h2 hN H locs ls hl hw
      refine lv_iload_n hx hb dX2_reckonGains_2 rfl (lv_at hl 2 rfl) ?_
      refine lv_iconst (v := 3) hx hb dX2_reckonGains_3 (by decide) ?_
      refine lv_icmp_gt (tgt := 58) hx hb dX2_reckonGains_4 (by decide) (fun c_4 => ?_) (fun c_4 => ?_)
      · exact xr_v hc hlocks hr hw (by have hz4 := x_gt2 h2 (b := 3) rfl (by omega) (by decide) c_4; rw [show z = 4 by omega]; rfl) (Nat.le_of_ble_eq_true rfl) (Nat.le_of_ble_eq_true rfl) dX2_reckonGains_58
      · have hzl : z ≤ 3 := x_ngt h2 (b := 3) rfl (by omega) (by decide) c_4
        refine lv_iconst (v := 0) hx hb dX2_reckonGains_7 (by decide) ?_
        refine lv_istore_n (lv' := [(3, .int 0), (0, .ref (ad 2 0)), (1, .ref (ad 5 i)), (2, .int x2)]) hx hb dX2_reckonGains_8 rfl hl (by decide) rfl (fun ls hl => ?_)
        have cut_9 : ∀ (N : Nat) (pl : Nat) (x3 : Int32), (pl ≤ 36) → (x3 = nI pl) → (36 - pl < N) → ∀ (H : Heap) (locs : List Loc) (ls : Array Slot), lv_has ls 5 [(0, .ref (ad 2 0)), (1, .ref (ad 5 i)), (2, .int x2), (3, .int x3)] → x_B D cs base ad (x_n nS nB nC nO) (x_s nS nB nC nO nS nC) (f_rG σ i (36 * (z - 1) + pl)) s H locs → W p l e (x_rm 2 0 0) s m ([.ref (ad 2 0), .ref (ad 5 i)] : List Value).toArray below meth c H locs 0 0 (MQ below (va_Qv (q_X2_reckonGains σ i) (fun σ' => x_U D cs base ad (x_n nS nB nC nO) (x_s nS nB nC nO nS nC) σ') (x_A base)) ([.ref (ad 2 0), .ref (ad 5 i)] : List Value).toArray s 0 0 (x_A base)) (F0 m 9 ls []) := by
          intro N
          induction N with
          | zero => intro pl x3 hp h3 hN; exact absurd hN (Nat.not_lt_zero _)
          | succ N ih_9 =>
            intro pl x3 hp h3 hN H locs ls hl hw
            refine lv_iload_n hx hb dX2_reckonGains_9 rfl (lv_at hl 3 rfl) ?_
            refine lv_bipush (v := 36) hx hb dX2_reckonGains_10 (by decide) ?_
            refine lv_icmp_ge (tgt := 52) hx hb dX2_reckonGains_12 (by decide) (fun c_12 => ?_) (fun c_12 => ?_)
            · obtain ⟨x2_52, ex2_52⟩ : ∃ y : Int32, y = x2 + 1 := ⟨_, rfl⟩
              refine lv_iinc (v := x2_52) (lv' := [(2, .int x2_52), (0, .ref (ad 2 0)), (1, .ref (ad 5 i)), (3, .int x3)]) hx hb dX2_reckonGains_52 hl (k := 2) rfl (by rw [ex2_52]; rfl) (by decide) rfl (fun ls hl => ?_)
              refine lv_goto (tgt := 2) hx hb dX2_reckonGains_55 (by decide) ?_
              have hzz := x_ge h3 (b := 36) rfl (by omega) (by decide) c_12
              rw [show 36 * (z - 1) + pl = 36 * (z + 1 - 1) by omega] at hw
              exact ih_2 (z + 1) _ (⟨by omega, by omega⟩) (by rw [ex2_52, h2, nI_1]) (by omega) _ _ _ (lv_sub hl [1, 2, 0] rfl) hw
            · have hpl : pl < 36 := x_nge h3 (b := 36) rfl (by omega) (by decide) c_12
              refine lv_aload_n hx hb dX2_reckonGains_15 rfl (lv_at hl 1 rfl) ?_
              refine lv_iload_n hx hb dX2_reckonGains_16 rfl (lv_at hl 3 rfl) ?_
              refine lv_iload_n hx hb dX2_reckonGains_17 rfl (lv_at hl 2 rfl) ?_
              refine xc_Vi hc hw 5 i (c_X5_blankThickness i pl z hi hpl hzl) rfl rfl (hi) mw_358 mw_355 mw_5 mw_356 mw_357 xd_X5_blankThickness ⟨by decide, by decide⟩ (by rw [h2, h3]; rfl) hl.1 (Nat.le_of_ble_eq_true rfl) dX2_reckonGains_18 ⟨Nat.le_of_ble_eq_true rfl, Nat.le_of_ble_eq_true rfl⟩ (fun r_18 σ_18 H locs hq hw => ?_)
              obtain ⟨hσ_18, hr_18⟩ := hq
              rw [hσ_18] at hw
              have e18 : r_18 = f_bt9 σ i pl z := (by rw [hr_18, f_bt9, f_rG_G])
              obtain ⟨t, ht9, ht⟩ := f_bt9_ok hG pl z
              refine lv_istore (lv' := [(4, .int r_18), (0, .ref (ad 2 0)), (1, .ref (ad 5 i)), (2, .int x2), (3, .int x3)]) hx hb dX2_reckonGains_21 hl (by decide) rfl (fun ls hl => ?_)
              refine lv_aload_n hx hb dX2_reckonGains_23 rfl (lv_at hl 1 rfl) ?_
              refine xg_r hc hw 2 0 2 rfl rfl rfl rfl (by decide) (Nat.zero_lt_one) (Nat.zero_lt_one) mw_42 dX2_reckonGains_24 ?_
              refine lv_iload_n hx hb dX2_reckonGains_27 rfl (lv_at hl 3 rfl) ?_
              refine lv_bipush (v := 36) hx hb dX2_reckonGains_28 (by decide) ?_
              refine lv_imul hx hb dX2_reckonGains_30 ?_
              refine lv_iload_n hx hb dX2_reckonGains_31 rfl (lv_at hl 4 rfl) ?_
              refine lv_iadd hx hb dX2_reckonGains_32 ?_
              refine lv_aload_n hx hb dX2_reckonGains_33 rfl (lv_at hl 1 rfl) ?_
              refine xg_r hc hw 2 0 0 rfl rfl rfl rfl (by decide) (Nat.zero_lt_one) (Nat.zero_lt_one) mw_40 dX2_reckonGains_34 ?_
              refine lv_iload_n hx hb dX2_reckonGains_37 rfl (lv_at hl 3 rfl) ?_
              refine lv_bipush (v := 10) hx hb dX2_reckonGains_38 (by decide) ?_
              refine lv_imul hx hb dX2_reckonGains_40 ?_
              refine lv_iload hx hb dX2_reckonGains_41 (lv_at hl 0 rfl) ?_
              refine lv_iadd hx hb dX2_reckonGains_43 ?_
              refine xa_ld hc hw 11 0 (10 * z + t) rfl (Nat.zero_lt_one) (by rw [h2, e18, ht]; exact x_ab _ _) (by show _ < 40; omega) dX2_reckonGains_44 ?_
              refine xa_st hc hw 12 0 (36 * z + pl) rfl (Nat.zero_lt_one) (by rw [h2, h3]; exact x_36z) (by show _ < 144; omega) dX2_reckonGains_45 (fun H locs hw => ?_)
              obtain ⟨x3_46, ex3_46⟩ : ∃ y : Int32, y = x3 + 1 := ⟨_, rfl⟩
              refine lv_iinc (v := x3_46) (lv' := [(3, .int x3_46), (4, .int r_18), (0, .ref (ad 2 0)), (1, .ref (ad 5 i)), (2, .int x2)]) hx hb dX2_reckonGains_46 hl (k := 4) rfl (by rw [ex3_46]; rfl) (by decide) rfl (fun ls hl => ?_)
              refine lv_goto (tgt := 9) hx hb dX2_reckonGains_49 (by decide) ?_
              rw [show x_up (f_rG σ i (36 * (z - 1) + pl)) 12 0 (36 * z + pl) (f_rG σ i (36 * (z - 1) + pl) 11 0 (10 * z + t)) = f_rG σ i (36 * (z - 1) + (pl + 1)) from f_rG_s hz.1 hpl ht (by omega)] at hw
              exact ih_9 (pl + 1) _ (by omega) (by rw [ex3_46, h3, nI_1]) (by omega) _ _ _ (lv_sub hl [2, 3, 4, 0] rfl) hw
        exact cut_9 _ 0 _ (by decide) (rfl) (Nat.lt_succ_self _) _ _ _ (lv_sub hl [1, 2, 3, 0] rfl) hw
  rw [← f_rG_0 σ i] at hw
  exact cut_2 _ 1 _ (⟨by decide, by decide⟩) (rfl) (Nat.lt_succ_self _) _ _ _ (lv_sub hl [1, 2, 0] rfl) hw
