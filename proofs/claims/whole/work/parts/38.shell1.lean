def f_tk (v : Int32) (c : Nat) : Int32 := (v.toUInt32 >>> ((4 * nI c).toUInt32 &&& Int32.toUInt32 31)).toInt32 &&& 15
def f_pi (i r : Nat) (v : Int32) : Nat → Nat → x_St → Bool × x_St
  | 0, _, σ => (true, σ)
  | f + 1, c, σ => if f_tk v c ≤ 9 then f_pi i r v f (c + 1) (x_up σ 15 i (6 * r + c) (f_tk v c)) else (false, σ)
def f_po (i C : Nat) : Nat → Nat → x_St → Bool × x_St
  | 0, _, σ => (true, σ)
  | f + 1, r, σ => if (f_pi i r (σ 19 0 r) C 0 σ).1 = true then f_po i C f (r + 1) (f_pi i r (σ 19 0 r) C 0 σ).2 else (false, (f_pi i r (σ 19 0 r) C 0 σ).2)
theorem x_6c {r c : Nat} : nI r * 6 + nI c = nI (6 * r + c) := by
  rw [show (6 : Int32) = nI 6 from rfl, pk_mul, nI_add, Nat.mul_comm]
/-- X5_takesSquares -/
def q_X5_takesSquares (σ : x_St) (i R C : Nat) : Int32 → x_St → Prop := fun r σ' => r = (if (f_po i C R 0 σ).1 = true then 1 else 0) ∧ σ' = (f_po i C R 0 σ).2
set_option maxHeartbeats 4000000 in
set_option maxRecDepth 100000 in
theorem c_X5_takesSquares {l : Launch} {D : va_G} {cs : Nat → ClassId} {base : Nat} {ad : Nat → Nat → Nat} {n st : Nat → Nat} {σ : x_St} (i R C : Nat) (hi : i < n 5) (hi2 : i < n 15) (hi3 : i < st 115) (ht : 0 < n 19) (hR : σ 5 i 0 = nI R) (hR0 : R ≤ 6) (hC : σ 5 i 1 = nI C) (hC0 : C ≤ 6) : x_Ci l yX5_takesSquares cX5_takesSquares 5 (some .boolean) 1 0 0 D cs base ad n st σ [.ref (ad 5 i), .ref (ad 19 0)] (q_X5_takesSquares σ i R C) (fun σ' => x_U D cs base ad n st σ') := by
  refine Met.ofW (cc := cX5_takesSquares) (maxL := 5) (ret := some .boolean) (by decide) rfl ?_
  intro p e s m args below meth c s₁ B hml hv
  obtain ⟨rfl, hU⟩ := hv
  have hx := B.exec
  have hb := B.bytes
  have hr := B.returns
  have hts := atoms_spec (ws := Cond.code yX5_takesSquares cX5_takesSquares 5 (some .boolean) :: Tw) B.pre
  have hown : s.vm.findClass RX5 = some m.cls := findClass_of_methodNamed B.named
  have hlocks := B.notSynchronized
  have hc : CallFix p m c cX5_takesSquares 5 s (([.ref (ad 5 i), .ref (ad 19 0)] : List Value).toArray) Tw RX5 := ⟨hx, hb, hml, hown, fun w hw => hts w (List.mem_cons_of_mem _ hw)⟩
  have hw := x_B.start hU
  have hl := lv_entry ([.ref (ad 5 i), .ref (ad 19 0)]) (n := 5) (Nat.le_of_ble_eq_true rfl)
  rw [lg_entry_eq]
  generalize (lg_sl ([.ref (ad 5 i), .ref (ad 19 0)]) ++ List.replicate (5 - (lg_sl ([.ref (ad 5 i), .ref (ad 19 0)])).length) Slot.unset).toArray = ls at hl ⊢
  have hl : lv_has ls 5 [(0, .ref (ad 5 i)), (1, .ref (ad 19 0))] := hl
  show W p l e (x_rm 1 0 0) s m ([.ref (ad 5 i), .ref (ad 19 0)] : List Value).toArray below meth c s.heap [] 0 0 (MQ below (va_Qi (q_X5_takesSquares σ i R C) (fun σ' => x_U D cs base ad n st σ') (x_A base)) ([.ref (ad 5 i), .ref (ad 19 0)] : List Value).toArray s 0 0 (x_A base)) (F0 m 0 ls [])
  refine lv_iconst (v := 0) hx hb dX5_takesSquares_0 (by decide) ?_
  refine lv_istore_n (lv' := [(2, .int 0), (0, .ref (ad 5 i)), (1, .ref (ad 19 0))]) hx hb dX5_takesSquares_1 rfl hl (by decide) rfl (fun ls hl => ?_)
  have cut_2 : ∀ (N : Nat) (r : Nat) (x2 : Int32) (σc : x_St), (r ≤ R) → (x2 = nI r) → (σc 5 i 0 = nI R) → (σc 5 i 1 = nI C) → (f_po i C (R - r) r σc = f_po i C R 0 σ) → (R - r < N) → ∀ (H : Heap) (locs : List Loc) (ls : Array Slot), lv_has ls 5 [(0, .ref (ad 5 i)), (1, .ref (ad 19 0)), (2, .int x2)] → x_B D cs base ad n st σc s H locs → W p l e (x_rm 1 0 0) s m ([.ref (ad 5 i), .ref (ad 19 0)] : List Value).toArray below meth c H locs 0 0 (MQ below (va_Qi (q_X5_takesSquares σ i R C) (fun σ' => x_U D cs base ad n st σ') (x_A base)) ([.ref (ad 5 i), .ref (ad 19 0)] : List Value).toArray s 0 0 (x_A base)) (F0 m 2 ls []) := by
    intro N
    induction N with
    | zero => intro r x2 σc hr6 h2 hR1 hC1 hI hN; exact absurd hN (Nat.not_lt_zero _)
    | succ N ih_2 =>
      intro r x2 σc hr6 h2 hR1 hC1 hI hN H locs ls hl hw
      refine lv_iload_n hx hb dX5_takesSquares_2 rfl (lv_at hl 2 rfl) ?_
      refine lv_aload_n hx hb dX5_takesSquares_3 rfl (lv_at hl 0 rfl) ?_
      refine xg_i hc hw 5 i 0 rfl rfl rfl rfl (by decide) (hi) mw_134 dX5_takesSquares_4 ?_
      refine lv_icmp_ge (tgt := 66) hx hb dX5_takesSquares_7 (by decide) (fun c_7 => ?_) (fun c_7 => ?_)
      · refine lv_iconst (v := 1) hx hb dX5_takesSquares_66 (by decide) ?_
        exact xr_i hc hlocks hr rfl hw (by have hz := x_ge h2 hR1 (by omega) (by omega) c_7; rw [show R - r = 0 by omega, f_po] at hI; unfold q_X5_takesSquares; rw [← hI]; exact ⟨rfl, rfl⟩) (Nat.le_of_ble_eq_true rfl) (Nat.le_of_ble_eq_true rfl) dX5_takesSquares_67
      · have hrl : r < R := x_nge h2 hR1 (by omega) (by omega) c_7
        have hst : R - r = (R - (r + 1)) + 1 := by omega
        rw [hst, f_po] at hI
        refine lv_iconst (v := 0) hx hb dX5_takesSquares_10 (by decide) ?_
        refine lv_istore_n (lv' := [(3, .int 0), (0, .ref (ad 5 i)), (1, .ref (ad 19 0)), (2, .int x2)]) hx hb dX5_takesSquares_11 rfl hl (by decide) rfl (fun ls hl => ?_)
        have cut_12 : ∀ (N : Nat) (c9 : Nat) (x3 : Int32) (σd : x_St), (c9 ≤ C) → (x3 = nI c9) → (σd 5 i 0 = nI R) → (σd 5 i 1 = nI C) → (σd 19 0 r = σc 19 0 r) → (f_pi i r (σc 19 0 r) (C - c9) c9 σd = f_pi i r (σc 19 0 r) C 0 σc) → (C - c9 < N) → ∀ (H : Heap) (locs : List Loc) (ls : Array Slot), lv_has ls 5 [(0, .ref (ad 5 i)), (1, .ref (ad 19 0)), (2, .int x2), (3, .int x3)] → x_B D cs base ad n st σd s H locs → W p l e (x_rm 1 0 0) s m ([.ref (ad 5 i), .ref (ad 19 0)] : List Value).toArray below meth c H locs 0 0 (MQ below (va_Qi (q_X5_takesSquares σ i R C) (fun σ' => x_U D cs base ad n st σ') (x_A base)) ([.ref (ad 5 i), .ref (ad 19 0)] : List Value).toArray s 0 0 (x_A base)) (F0 m 12 ls []) := by
          intro N
          induction N with
          | zero => intro c9 x3 σd hc6 h3 hR2 hC2 h19 hJ hN; exact absurd hN (Nat.not_lt_zero _)
          | succ N ih_12 =>
            intro c9 x3 σd hc6 h3 hR2 hC2 h19 hJ hN H locs ls hl hw
            refine lv_iload_n hx hb dX5_takesSquares_12 rfl (lv_at hl 3 rfl) ?_
            refine lv_aload_n hx hb dX5_takesSquares_13 rfl (lv_at hl 0 rfl) ?_
            refine xg_i hc hw 5 i 1 rfl rfl rfl rfl (by decide) (hi) mw_137 dX5_takesSquares_14 ?_
            refine lv_icmp_ge (tgt := 60) hx hb dX5_takesSquares_17 (by decide) (fun c_17 => ?_) (fun c_17 => ?_)
            · obtain ⟨x2_60, ex2_60⟩ : ∃ y : Int32, y = x2 + 1 := ⟨_, rfl⟩
              refine lv_iinc (v := x2_60) (lv' := [(2, .int x2_60), (0, .ref (ad 5 i)), (1, .ref (ad 19 0)), (3, .int x3)]) hx hb dX5_takesSquares_60 hl (k := 2) rfl (by rw [ex2_60]; rfl) (by decide) rfl (fun ls hl => ?_)
              refine lv_goto (tgt := 2) hx hb dX5_takesSquares_63 (by decide) ?_
              exact ih_2 (r + 1) _ _ (by omega) (by rw [ex2_60, h2, nI_1]) (hR2) (hC2) (by have hz := x_ge h3 hC2 (by omega) (by omega) c_17; rw [show C - c9 = 0 by omega, f_pi] at hJ; rw [← hJ] at hI; exact hI) (by omega) _ _ _ (lv_sub hl [1, 2, 0] rfl) hw
            · have hcl : c9 < C := x_nge h3 hC2 (by omega) (by omega) c_17
              have hst2 : C - c9 = (C - (c9 + 1)) + 1 := by omega
              rw [hst2, f_pi] at hJ
              refine lv_aload_n hx hb dX5_takesSquares_20 rfl (lv_at hl 1 rfl) ?_
              refine lv_iload_n hx hb dX5_takesSquares_21 rfl (lv_at hl 2 rfl) ?_
              refine xa_ld hc hw 19 0 r rfl (ht) (h2) (by show _ < 6; omega) dX5_takesSquares_22 ?_
              refine lv_iconst (v := 4) hx hb dX5_takesSquares_23 (by decide) ?_
              refine lv_iload_n hx hb dX5_takesSquares_24 rfl (lv_at hl 3 rfl) ?_
              refine lv_imul hx hb dX5_takesSquares_25 ?_
              refine lv_iushr hx hb dX5_takesSquares_26 rfl ?_
              refine lv_bipush (v := 15) hx hb dX5_takesSquares_27 (by decide) ?_
              refine lv_iand hx hb dX5_takesSquares_29 ?_
              refine lv_topi (fun x4_30 ex4_30 => ?_)
              refine lv_istore (lv' := [(4, .int x4_30), (0, .ref (ad 5 i)), (1, .ref (ad 19 0)), (2, .int x2), (3, .int x3)]) hx hb dX5_takesSquares_30 hl (by decide) rfl (fun ls hl => ?_)
              have e4 : x4_30 = f_tk (σc 19 0 r) c9 := (by rw [ex4_30, h19, h3]; rfl)
              refine lv_iload hx hb dX5_takesSquares_32 (lv_at hl 0 rfl) ?_
              refine lv_bipush (v := 9) hx hb dX5_takesSquares_34 (by decide) ?_
              refine lv_icmp_le (tgt := 41) hx hb dX5_takesSquares_36 (by decide) (fun c_36 => ?_) (fun c_36 => ?_)
              · refine lv_aload_n hx hb dX5_takesSquares_41 rfl (lv_at hl 1 rfl) ?_
                refine xg_r hc hw 5 i 3 rfl rfl rfl rfl (by decide) (hi) (hi3) mw_142 dX5_takesSquares_42 ?_
                refine lv_iload_n hx hb dX5_takesSquares_45 rfl (lv_at hl 3 rfl) ?_
                refine lv_bipush (v := 6) hx hb dX5_takesSquares_46 (by decide) ?_
                refine lv_imul hx hb dX5_takesSquares_48 ?_
                refine lv_iload_n hx hb dX5_takesSquares_49 rfl (lv_at hl 4 rfl) ?_
                refine lv_iadd hx hb dX5_takesSquares_50 ?_
                refine lv_iload hx hb dX5_takesSquares_51 (lv_at hl 0 rfl) ?_
                refine xa_st hc hw 15 i (6 * r + c9) rfl (hi2) (by rw [h2, h3]; exact x_6c) (by show _ < 36; omega) dX5_takesSquares_53 (fun H locs hw => ?_)
                obtain ⟨x3_54, ex3_54⟩ : ∃ y : Int32, y = x3 + 1 := ⟨_, rfl⟩
                refine lv_iinc (v := x3_54) (lv' := [(3, .int x3_54), (4, .int x4_30), (0, .ref (ad 5 i)), (1, .ref (ad 19 0)), (2, .int x2)]) hx hb dX5_takesSquares_54 hl (k := 4) rfl (by rw [ex3_54]; rfl) (by decide) rfl (fun ls hl => ?_)
                refine lv_goto (tgt := 12) hx hb dX5_takesSquares_57 (by decide) ?_
                exact ih_12 (c9 + 1) _ _ (by omega) (by rw [ex3_54, h3, nI_1]) (by simpa [x_up] using hR2) (by simpa [x_up] using hC2) (by simpa [x_up] using h19) (by rw [← e4, if_pos c_36] at hJ; exact hJ) (by omega) _ _ _ (lv_sub hl [2, 3, 4, 0] rfl) hw
              · refine lv_iconst (v := 0) hx hb dX5_takesSquares_39 (by decide) ?_
                exact xr_i hc hlocks hr rfl hw (by rw [← e4, if_neg (Int32.not_le.mpr (Int32.not_le.mp c_36))] at hJ; rw [← hJ] at hI; unfold q_X5_takesSquares; rw [← hI]; exact ⟨rfl, rfl⟩) (Nat.le_of_ble_eq_true rfl) (Nat.le_of_ble_eq_true rfl) dX5_takesSquares_40
        exact cut_12 _ 0 _ _ (Nat.zero_le _) (rfl) (hR1) (hC1) (rfl) (rfl) (Nat.lt_succ_self _) _ _ _ (lv_sub hl [1, 2, 3, 0] rfl) hw
  exact cut_2 _ 0 _ _ (Nat.zero_le _) (rfl) (hR) (hC) (rfl) (Nat.lt_succ_self _) _ _ _ (lv_sub hl [1, 2, 0] rfl) hw
