def m_rv (e0 e1 e2 e3 e4 e5 x : Int32) : Int32 := if x = 0 then e0 else if x = 1 then e1 else if x = 2 then e2 else if x = 3 then e3 else if x = 4 then e4 else e5
def m_tk (v x : Int32) : Int32 := (v >>> ((4 * x) &&& 31)) &&& 15
def m_pi (nS C r : Nat) (v : Int32) : Nat → Nat → x_St → Int32 → Int32 × x_St
  | 0, _, σ, k => (k, σ)
  | f + 1, c, σ, k => m_pi nS C r v f (c + 1) (x_up σ 39 0 (36 * nS + C * r + c) (m_tk v (nI c))) (if ¬ k = 0 ∧ m_tk v (nI c) ≤ 9 then 1 else 0)
def m_po (e0 e1 e2 e3 e4 e5 : Int32) (nS C : Nat) : Nat → Nat → x_St → Int32 → Int32 × x_St
  | 0, _, σ, k => (k, σ)
  | f + 1, r, σ, k => m_po e0 e1 e2 e3 e4 e5 nS C f (r + 1) (m_pi nS C r (m_rv e0 e1 e2 e3 e4 e5 (nI r)) C 0 σ k).2 (m_pi nS C r (m_rv e0 e1 e2 e3 e4 e5 (nI r)) C 0 σ k).1
def m_sh (σ : x_St) (a b d : Int32) (nS : Nat) : x_St := x_up (x_up (x_up (x_up σ 36 0 nS a) 37 0 nS b) 38 0 nS d) 7 0 1 (nI (nS + 1))
theorem x_36 {b : Int32} {nS r c : Nat} (hb : b = nI (x_c b)) : 36 * nI nS + b * nI r + nI c = nI (36 * nS + x_c b * r + c) := by
  conv => lhs; rw [hb]
  rw [show (36 : Int32) = nI 36 from rfl, pk_mul, pk_mul, nI_add, nI_add]

/-- X7_shell -/
def q_X7_shell (σ : x_St) (a b d e0 e1 e2 e3 e4 e5 : Int32) (nS : Nat) : Int32 → x_St → Prop := fun r σ' => ((nS < 30 ∧ (1 ≤ a ∧ a ≤ 6) ∧ (1 ≤ b ∧ b ≤ 6) ∧ 0 ≤ d ∧ d ≤ 9) → if (m_po e0 e1 e2 e3 e4 e5 nS (x_c b) (x_c a) 0 (x_up σ 7 0 0 0) 1).1 = 0 then r = -1 ∧ σ' = (m_po e0 e1 e2 e3 e4 e5 nS (x_c b) (x_c a) 0 (x_up σ 7 0 0 0) 1).2 else r = nI nS ∧ σ' = m_sh (m_po e0 e1 e2 e3 e4 e5 nS (x_c b) (x_c a) 0 (x_up σ 7 0 0 0) 1).2 a b d nS) ∧ (¬ (nS < 30 ∧ (1 ≤ a ∧ a ≤ 6) ∧ (1 ≤ b ∧ b ≤ 6) ∧ 0 ≤ d ∧ d ≤ 9) → r = -1 ∧ σ' = x_up σ 7 0 0 0)
set_option maxHeartbeats 4000000 in
set_option maxRecDepth 100000 in
theorem c_X7_shell {l : Launch} {D : va_G} {cs : Nat → ClassId} {base : Nat} {ad : Nat → Nat → Nat} {n st : Nat → Nat} {σ : x_St} (a b d e0 e1 e2 e3 e4 e5 : Int32) (nS : Nat) (hS : σ 7 0 1 = nI nS) (hS0 : nS ≤ 30) (h7 : 0 < n 7) (hm : ∀ k, 36 ≤ k → k < 70 → 0 < n k ∧ 0 < st (100 + k)) : x_Ci l yX7_shell cX7_shell 15 (some .int) 1 0 0 D cs base ad n st σ [.ref (ad 7 0), .int a, .int b, .int d, .int e0, .int e1, .int e2, .int e3, .int e4, .int e5] (q_X7_shell σ a b d e0 e1 e2 e3 e4 e5 nS) (fun σ' => x_U D cs base ad n st σ') := by
  refine Met.ofW (cc := cX7_shell) (maxL := 15) (ret := some .int) (by decide) rfl ?_
  intro p e s m args below meth c s₁ B hml hv
  obtain ⟨rfl, hU⟩ := hv
  have hx := B.exec
  have hb := B.bytes
  have hr := B.returns
  have hts := atoms_spec (ws := Cond.code yX7_shell cX7_shell 15 (some .int) :: Tw) B.pre
  have hown : s.vm.findClass RX7 = some m.cls := findClass_of_methodNamed B.named
  have hlocks := B.notSynchronized
  have hc : CallFix p m c cX7_shell 15 s (([.ref (ad 7 0), .int a, .int b, .int d, .int e0, .int e1, .int e2, .int e3, .int e4, .int e5] : List Value).toArray) Tw RX7 := ⟨hx, hb, hml, hown, fun w hw => hts w (List.mem_cons_of_mem _ hw)⟩
  have hw := x_B.start hU
  have hl := lv_entry ([.ref (ad 7 0), .int a, .int b, .int d, .int e0, .int e1, .int e2, .int e3, .int e4, .int e5]) (n := 15) (Nat.le_of_ble_eq_true rfl)
  rw [lg_entry_eq]
  generalize (lg_sl ([.ref (ad 7 0), .int a, .int b, .int d, .int e0, .int e1, .int e2, .int e3, .int e4, .int e5]) ++ List.replicate (15 - (lg_sl ([.ref (ad 7 0), .int a, .int b, .int d, .int e0, .int e1, .int e2, .int e3, .int e4, .int e5])).length) Slot.unset).toArray = ls at hl ⊢
  have hl : lv_has ls 15 [(0, .ref (ad 7 0)), (1, .int a), (2, .int b), (3, .int d), (4, .int e0), (5, .int e1), (6, .int e2), (7, .int e3), (8, .int e4), (9, .int e5)] := hl
  show W p l e (x_rm 1 0 0) s m ([.ref (ad 7 0), .int a, .int b, .int d, .int e0, .int e1, .int e2, .int e3, .int e4, .int e5] : List Value).toArray below meth c s.heap [] 0 0 (MQ below (va_Qi (q_X7_shell σ a b d e0 e1 e2 e3 e4 e5 nS) (fun σ' => x_U D cs base ad n st σ') (x_A base)) ([.ref (ad 7 0), .int a, .int b, .int d, .int e0, .int e1, .int e2, .int e3, .int e4, .int e5] : List Value).toArray s 0 0 (x_A base)) (F0 m 0 ls [])
  refine lv_aload_n hx hb dX7_shell_0 rfl (lv_at hl 0 rfl) ?_
  refine lv_iconst (v := 0) hx hb dX7_shell_1 (by decide) ?_
  refine xp_i hc hw 7 0 0 rfl rfl rfl rfl (by decide) (h7) rfl (ty := .int) (by decide +kernel) rfl rfl mw_687 dX7_shell_2 (fun H locs hw => ?_)
  have cut_46 : (¬ (nS < 30 ∧ (1 ≤ a ∧ a ≤ 6) ∧ (1 ≤ b ∧ b ≤ 6) ∧ 0 ≤ d ∧ d ≤ 9)) → ∀ (H : Heap) (locs : List Loc) (ls : Array Slot), lv_has ls 15 [(0, .ref (ad 7 0)), (1, .int a), (2, .int b), (3, .int d), (4, .int e0), (5, .int e1), (6, .int e2), (7, .int e3), (8, .int e4), (9, .int e5)] → x_B D cs base ad n st (x_up σ 7 0 0 0) s H locs → W p l e (x_rm 1 0 0) s m ([.ref (ad 7 0), .int a, .int b, .int d, .int e0, .int e1, .int e2, .int e3, .int e4, .int e5] : List Value).toArray below meth c H locs 0 0 (MQ below (va_Qi (q_X7_shell σ a b d e0 e1 e2 e3 e4 e5 nS) (fun σ' => x_U D cs base ad n st σ') (x_A base)) ([.ref (ad 7 0), .int a, .int b, .int d, .int e0, .int e1, .int e2, .int e3, .int e4, .int e5] : List Value).toArray s 0 0 (x_A base)) (F0 m 46 ls []) := by
    intro  hbad H locs ls hl hw
    refine lv_iconst (v := (-1)) hx hb dX7_shell_46 (by decide) ?_
    exact xr_i hc hlocks hr rfl hw (⟨fun q => absurd q hbad, fun _ => ⟨rfl, rfl⟩⟩) (Nat.le_of_ble_eq_true rfl) (Nat.le_of_ble_eq_true rfl) dX7_shell_47
  refine lv_aload_n hx hb dX7_shell_5 rfl (lv_at hl 0 rfl) ?_
  refine xg_i hc hw 7 0 1 rfl rfl rfl rfl (by decide) (h7) mw_688 dX7_shell_6 ?_
  refine lv_bipush (v := 30) hx hb dX7_shell_9 (by decide) ?_
  refine lv_icmp_eq (tgt := 46) hx hb dX7_shell_11 (by decide) (fun c_11 => ?_) (fun c_11 => ?_)
  · exact cut_46 (fun q => by have h30 := x_n30 (hS.symm.trans (by simpa [x_up] using c_11)) hS0; omega) _ _ _ (lv_sub hl [0, 1, 2, 3, 4, 5, 6, 7, 8, 9] rfl) hw
  · refine lv_iload_n hx hb dX7_shell_14 rfl (lv_at hl 1 rfl) ?_
    refine lv_iconst (v := 1) hx hb dX7_shell_15 (by decide) ?_
    refine lv_icmp_lt (tgt := 46) hx hb dX7_shell_16 (by decide) (fun c_16 => ?_) (fun c_16 => ?_)
    · exact cut_46 (fun q => by clear hS; simp_all [← Int32.not_le]) _ _ _ (lv_sub hl [0, 1, 2, 3, 4, 5, 6, 7, 8, 9] rfl) hw
    · refine lv_iload_n hx hb dX7_shell_19 rfl (lv_at hl 1 rfl) ?_
      refine lv_bipush (v := 6) hx hb dX7_shell_20 (by decide) ?_
      refine lv_icmp_gt (tgt := 46) hx hb dX7_shell_22 (by decide) (fun c_22 => ?_) (fun c_22 => ?_)
      · exact cut_46 (fun q => by clear hS; simp_all [← Int32.not_le]) _ _ _ (lv_sub hl [0, 1, 2, 3, 4, 5, 6, 7, 8, 9] rfl) hw
      · refine lv_iload_n hx hb dX7_shell_25 rfl (lv_at hl 2 rfl) ?_
        refine lv_iconst (v := 1) hx hb dX7_shell_26 (by decide) ?_
        refine lv_icmp_lt (tgt := 46) hx hb dX7_shell_27 (by decide) (fun c_27 => ?_) (fun c_27 => ?_)
        · exact cut_46 (fun q => by clear hS; simp_all [← Int32.not_le]) _ _ _ (lv_sub hl [0, 1, 2, 3, 4, 5, 6, 7, 8, 9] rfl) hw
        · refine lv_iload_n hx hb dX7_shell_30 rfl (lv_at hl 2 rfl) ?_
          refine lv_bipush (v := 6) hx hb dX7_shell_31 (by decide) ?_
          refine lv_icmp_gt (tgt := 46) hx hb dX7_shell_33 (by decide) (fun c_33 => ?_) (fun c_33 => ?_)
          · exact cut_46 (fun q => by clear hS; simp_all [← Int32.not_le]) _ _ _ (lv_sub hl [0, 1, 2, 3, 4, 5, 6, 7, 8, 9] rfl) hw
          · refine lv_iload_n hx hb dX7_shell_36 rfl (lv_at hl 3 rfl) ?_
            refine lv_if_lt (tgt := 46) hx hb dX7_shell_37 (by decide) (fun c_37 => ?_) (fun c_37 => ?_)
            · exact cut_46 (fun q => by clear hS; simp_all [← Int32.not_le]) _ _ _ (lv_sub hl [0, 1, 2, 3, 4, 5, 6, 7, 8, 9] rfl) hw
            · refine lv_iload_n hx hb dX7_shell_40 rfl (lv_at hl 3 rfl) ?_
              refine lv_bipush (v := 9) hx hb dX7_shell_41 (by decide) ?_
              refine lv_icmp_le (tgt := 48) hx hb dX7_shell_43 (by decide) (fun c_43 => ?_) (fun c_43 => ?_)
              · have hV : (nS < 30 ∧ (1 ≤ a ∧ a ≤ 6) ∧ (1 ≤ b ∧ b ≤ 6) ∧ 0 ≤ d ∧ d ≤ 9) := ⟨x_lt30 hS hS0 (by simpa [x_up] using c_11), by simp_all [← Int32.not_le]⟩
                obtain ⟨ha1, ha2⟩ := x_ixle (Int32.le_trans (by decide) hV.2.1.1) hV.2.1.2 (N := 6) rfl (by decide)
                obtain ⟨hb1, hb2⟩ := x_ixle (Int32.le_trans (by decide) hV.2.2.1.1) hV.2.2.1.2 (N := 6) rfl (by decide)
                clear c_11 c_16 c_22 c_27 c_33 c_37 c_43
                refine lv_iconst (v := 1) hx hb dX7_shell_48 (by decide) ?_
                refine lv_istore (lv' := [(10, .int 1), (0, .ref (ad 7 0)), (1, .int a), (2, .int b), (3, .int d), (4, .int e0), (5, .int e1), (6, .int e2), (7, .int e3), (8, .int e4), (9, .int e5)]) hx hb dX7_shell_49 hl (by decide) rfl (fun ls hl => ?_)
                refine lv_iconst (v := 0) hx hb dX7_shell_51 (by decide) ?_
                refine lv_istore (lv' := [(11, .int 0), (10, .int 1), (0, .ref (ad 7 0)), (1, .int a), (2, .int b), (3, .int d), (4, .int e0), (5, .int e1), (6, .int e2), (7, .int e3), (8, .int e4), (9, .int e5)]) hx hb dX7_shell_52 hl (by decide) rfl (fun ls hl => ?_)
                have cut_54 : ∀ (N : Nat) (r : Nat) (x10 : Int32) (x11 : Int32) (σb : x_St), (r ≤ x_c a) → (x11 = nI r) → (σb 7 0 1 = nI nS) → (m_po e0 e1 e2 e3 e4 e5 nS (x_c b) (x_c a - r) r σb x10 = (m_po e0 e1 e2 e3 e4 e5 nS (x_c b) (x_c a) 0 (x_up σ 7 0 0 0) 1)) → (x_c a - r < N) → ∀ (H : Heap) (locs : List Loc) (ls : Array Slot), lv_has ls 15 [(0, .ref (ad 7 0)), (1, .int a), (2, .int b), (3, .int d), (4, .int e0), (5, .int e1), (6, .int e2), (7, .int e3), (8, .int e4), (9, .int e5), (10, .int x10), (11, .int x11)] → x_B D cs base ad n st σb s H locs → W p l e (x_rm 1 0 0) s m ([.ref (ad 7 0), .int a, .int b, .int d, .int e0, .int e1, .int e2, .int e3, .int e4, .int e5] : List Value).toArray below meth c H locs 0 0 (MQ below (va_Qi (q_X7_shell σ a b d e0 e1 e2 e3 e4 e5 nS) (fun σ' => x_U D cs base ad n st σ') (x_A base)) ([.ref (ad 7 0), .int a, .int b, .int d, .int e0, .int e1, .int e2, .int e3, .int e4, .int e5] : List Value).toArray s 0 0 (x_A base)) (F0 m 54 ls []) := by
                  intro N
                  induction N with
                  | zero => intro r x10 x11 σb hr6 h11 hS1 hI hN; exact absurd hN (Nat.not_lt_zero _)
                  | succ N ih_54 =>
                    intro r x10 x11 σb hr6 h11 hS1 hI hN H locs ls hl hw
                    refine lv_iload hx hb dX7_shell_54 (lv_at hl 11 rfl) ?_
                    refine lv_iload_n hx hb dX7_shell_56 rfl (lv_at hl 1 rfl) ?_
                    refine lv_icmp_ge (tgt := 192) hx hb dX7_shell_57 (by decide) (fun c_57 => ?_) (fun c_57 => ?_)
                    · have hz := x_ge h11 ha1 (by omega) (by omega) c_57
                      rw [show x_c a - r = 0 by omega, m_po] at hI
                      refine lv_iload hx hb dX7_shell_192 (lv_at hl 10 rfl) ?_
                      refine lv_if_ne (tgt := 199) hx hb dX7_shell_194 (by decide) (fun c_194 => ?_) (fun c_194 => ?_)
                      · refine lv_aload_n hx hb dX7_shell_199 rfl (lv_at hl 0 rfl) ?_
                        refine xg_r hc hw 7 0 6 rfl rfl rfl rfl (by decide) (h7) ((hm 36 (by decide) (by decide)).2) mw_693 dX7_shell_200 ?_
                        refine lv_aload_n hx hb dX7_shell_203 rfl (lv_at hl 0 rfl) ?_
                        refine xg_i hc hw 7 0 1 rfl rfl rfl rfl (by decide) (h7) mw_688 dX7_shell_204 ?_
                        refine lv_iload_n hx hb dX7_shell_207 rfl (lv_at hl 1 rfl) ?_
                        refine xa_st hc hw 36 0 nS rfl ((hm 36 (by decide) (by decide)).1) (by simp [x_up, hS1]) (hV.1) dX7_shell_208 (fun H locs hw => ?_)
                        refine lv_aload_n hx hb dX7_shell_209 rfl (lv_at hl 0 rfl) ?_
                        refine xg_r hc hw 7 0 7 rfl rfl rfl rfl (by decide) (h7) ((hm 37 (by decide) (by decide)).2) mw_694 dX7_shell_210 ?_
                        refine lv_aload_n hx hb dX7_shell_213 rfl (lv_at hl 0 rfl) ?_
                        refine xg_i hc hw 7 0 1 rfl rfl rfl rfl (by decide) (h7) mw_688 dX7_shell_214 ?_
                        refine lv_iload_n hx hb dX7_shell_217 rfl (lv_at hl 2 rfl) ?_
                        refine xa_st hc hw 37 0 nS rfl ((hm 37 (by decide) (by decide)).1) (by simp [x_up, hS1]) (hV.1) dX7_shell_218 (fun H locs hw => ?_)
                        refine lv_aload_n hx hb dX7_shell_219 rfl (lv_at hl 0 rfl) ?_
                        refine xg_r hc hw 7 0 8 rfl rfl rfl rfl (by decide) (h7) ((hm 38 (by decide) (by decide)).2) mw_695 dX7_shell_220 ?_
                        refine lv_aload_n hx hb dX7_shell_223 rfl (lv_at hl 0 rfl) ?_
                        refine xg_i hc hw 7 0 1 rfl rfl rfl rfl (by decide) (h7) mw_688 dX7_shell_224 ?_
                        refine lv_iload_n hx hb dX7_shell_227 rfl (lv_at hl 3 rfl) ?_
                        refine xa_st hc hw 38 0 nS rfl ((hm 38 (by decide) (by decide)).1) (by simp [x_up, hS1]) (hV.1) dX7_shell_228 (fun H locs hw => ?_)
                        refine lv_aload_n hx hb dX7_shell_229 rfl (lv_at hl 0 rfl) ?_
                        refine lv_dup hx hb dX7_shell_230 rfl ?_
                        refine xg_i hc hw 7 0 1 rfl rfl rfl rfl (by decide) (h7) mw_688 dX7_shell_231 ?_
                        refine lv_iconst (v := 1) hx hb dX7_shell_234 (by decide) ?_
                        refine lv_iadd hx hb dX7_shell_235 ?_
                        refine xp_i hc hw 7 0 1 rfl rfl rfl rfl (by decide) (h7) rfl (ty := .int) (by decide +kernel) rfl rfl mw_688 dX7_shell_236 (fun H locs hw => ?_)
                        refine lv_aload_n hx hb dX7_shell_239 rfl (lv_at hl 0 rfl) ?_
                        refine xg_i hc hw 7 0 1 rfl rfl rfl rfl (by decide) (h7) mw_688 dX7_shell_240 ?_
                        refine lv_iconst (v := 1) hx hb dX7_shell_243 (by decide) ?_
                        refine lv_isub hx hb dX7_shell_244 ?_
                        exact xr_i hc hlocks hr rfl hw (⟨fun _ => by rw [← hI]; exact (if_neg c_194).mpr ⟨by simp [x_up, hS1, x_p1], by simp [m_sh, x_up, hS1, nI_1]⟩, fun q => absurd hV q⟩) (Nat.le_of_ble_eq_true rfl) (Nat.le_of_ble_eq_true rfl) dX7_shell_245
                      · refine lv_iconst (v := (-1)) hx hb dX7_shell_197 (by decide) ?_
                        exact xr_i hc hlocks hr rfl hw (⟨fun _ => by rw [← hI]; exact (if_pos c_194).mpr ⟨rfl, rfl⟩, fun q => absurd hV q⟩) (Nat.le_of_ble_eq_true rfl) (Nat.le_of_ble_eq_true rfl) dX7_shell_198
                    · have hrl : r < x_c a := x_nge h11 ha1 (by omega) (by omega) c_57
                      have hst : x_c a - r = (x_c a - (r + 1)) + 1 := by omega
                      rw [hst, m_po] at hI
                      have cut_116 : ∀ (v : Int32), (v = m_rv e0 e1 e2 e3 e4 e5 x11) → ∀ (H : Heap) (locs : List Loc) (ls : Array Slot), lv_has ls 15 [(0, .ref (ad 7 0)), (1, .int a), (2, .int b), (3, .int d), (4, .int e0), (5, .int e1), (6, .int e2), (7, .int e3), (8, .int e4), (9, .int e5), (10, .int x10), (11, .int x11)] → x_B D cs base ad n st σb s H locs → W p l e (x_rm 1 0 0) s m ([.ref (ad 7 0), .int a, .int b, .int d, .int e0, .int e1, .int e2, .int e3, .int e4, .int e5] : List Value).toArray below meth c H locs 0 0 (MQ below (va_Qi (q_X7_shell σ a b d e0 e1 e2 e3 e4 e5 nS) (fun σ' => x_U D cs base ad n st σ') (x_A base)) ([.ref (ad 7 0), .int a, .int b, .int d, .int e0, .int e1, .int e2, .int e3, .int e4, .int e5] : List Value).toArray s 0 0 (x_A base)) (F0 m 116 ls [.int v]) := by
                        intro v hv H locs ls hl hw
                        refine lv_istore (lv' := [(12, .int v), (0, .ref (ad 7 0)), (1, .int a), (2, .int b), (3, .int d), (4, .int e0), (5, .int e1), (6, .int e2), (7, .int e3), (8, .int e4), (9, .int e5), (10, .int x10), (11, .int x11)]) hx hb dX7_shell_116 hl (by decide) rfl (fun ls hl => ?_)
                        refine lv_iconst (v := 0) hx hb dX7_shell_118 (by decide) ?_
                        refine lv_istore (lv' := [(13, .int 0), (12, .int v), (0, .ref (ad 7 0)), (1, .int a), (2, .int b), (3, .int d), (4, .int e0), (5, .int e1), (6, .int e2), (7, .int e3), (8, .int e4), (9, .int e5), (10, .int x10), (11, .int x11)]) hx hb dX7_shell_119 hl (by decide) rfl (fun ls hl => ?_)
                        have cut_121 : ∀ (N : Nat) (c9 : Nat) (y10 : Int32) (x13 : Int32) (σc : x_St), (c9 ≤ x_c b) → (x13 = nI c9) → (σc 7 0 1 = nI nS) → (m_pi nS (x_c b) r (m_rv e0 e1 e2 e3 e4 e5 (nI r)) (x_c b - c9) c9 σc y10 = m_pi nS (x_c b) r (m_rv e0 e1 e2 e3 e4 e5 (nI r)) (x_c b) 0 σb x10) → (x_c b - c9 < N) → ∀ (H : Heap) (locs : List Loc) (ls : Array Slot), lv_has ls 15 [(0, .ref (ad 7 0)), (1, .int a), (2, .int b), (3, .int d), (4, .int e0), (5, .int e1), (6, .int e2), (7, .int e3), (8, .int e4), (9, .int e5), (10, .int y10), (11, .int x11), (12, .int v), (13, .int x13)] → x_B D cs base ad n st σc s H locs → W p l e (x_rm 1 0 0) s m ([.ref (ad 7 0), .int a, .int b, .int d, .int e0, .int e1, .int e2, .int e3, .int e4, .int e5] : List Value).toArray below meth c H locs 0 0 (MQ below (va_Qi (q_X7_shell σ a b d e0 e1 e2 e3 e4 e5 nS) (fun σ' => x_U D cs base ad n st σ') (x_A base)) ([.ref (ad 7 0), .int a, .int b, .int d, .int e0, .int e1, .int e2, .int e3, .int e4, .int e5] : List Value).toArray s 0 0 (x_A base)) (F0 m 121 ls []) := by
                          intro N
                          induction N with
                          | zero => intro c9 y10 x13 σc hc6 h13 hS3 hJ hN; exact absurd hN (Nat.not_lt_zero _)
                          | succ N ih_121 =>
                            intro c9 y10 x13 σc hc6 h13 hS3 hJ hN H locs ls hl hw
                            refine lv_iload hx hb dX7_shell_121 (lv_at hl 13 rfl) ?_
                            refine lv_iload_n hx hb dX7_shell_123 rfl (lv_at hl 2 rfl) ?_
                            refine lv_icmp_ge (tgt := 186) hx hb dX7_shell_124 (by decide) (fun c_124 => ?_) (fun c_124 => ?_)
                            · have hz := x_ge h13 hb1 (by omega) (by omega) c_124
                              rw [show x_c b - c9 = 0 by omega, m_pi] at hJ
                              obtain ⟨x11_186, ex11_186⟩ : ∃ y : Int32, y = x11 + 1 := ⟨_, rfl⟩
                              refine lv_iinc (v := x11_186) (lv' := [(11, .int x11_186), (0, .ref (ad 7 0)), (1, .int a), (2, .int b), (3, .int d), (4, .int e0), (5, .int e1), (6, .int e2), (7, .int e3), (8, .int e4), (9, .int e5), (10, .int y10), (12, .int v), (13, .int x13)]) hx hb dX7_shell_186 hl (k := 11) rfl (by rw [ex11_186]; rfl) (by decide) rfl (fun ls hl => ?_)
                              refine lv_goto (tgt := 54) hx hb dX7_shell_189 (by decide) ?_
                              exact ih_54 (r + 1) _ _ _ (by omega) (by rw [ex11_186, h11, nI_1]) (hS3) (by rw [← hJ] at hI; exact hI) (by omega) _ _ _ (lv_sub hl [1, 2, 3, 4, 5, 6, 7, 8, 9, 10, 11, 0] rfl) hw
                            · have hcl : c9 < x_c b := x_nge h13 hb1 (by omega) (by omega) c_124
                              have hst2 : x_c b - c9 = (x_c b - (c9 + 1)) + 1 := by omega
                              rw [hst2, m_pi] at hJ
                              refine lv_iload hx hb dX7_shell_127 (lv_at hl 12 rfl) ?_
                              refine lv_iconst (v := 4) hx hb dX7_shell_129 (by decide) ?_
                              refine lv_iload hx hb dX7_shell_130 (lv_at hl 13 rfl) ?_
                              refine lv_imul hx hb dX7_shell_132 ?_
                              refine lv_ishr hx hb dX7_shell_133 ?_
                              refine lv_bipush (v := 15) hx hb dX7_shell_134 (by decide) ?_
                              refine lv_iand hx hb dX7_shell_136 ?_
                              refine lv_topi (fun x14_137 ex14_137 => ?_)
                              refine lv_istore (lv' := [(14, .int x14_137), (0, .ref (ad 7 0)), (1, .int a), (2, .int b), (3, .int d), (4, .int e0), (5, .int e1), (6, .int e2), (7, .int e3), (8, .int e4), (9, .int e5), (10, .int y10), (11, .int x11), (12, .int v), (13, .int x13)]) hx hb dX7_shell_137 hl (by decide) rfl (fun ls hl => ?_)
                              have cut_156 : ∀ (z : Int32), (z = if ¬ y10 = 0 ∧ x14_137 ≤ 9 then 1 else 0) → ∀ (H : Heap) (locs : List Loc) (ls : Array Slot), lv_has ls 15 [(0, .ref (ad 7 0)), (1, .int a), (2, .int b), (3, .int d), (4, .int e0), (5, .int e1), (6, .int e2), (7, .int e3), (8, .int e4), (9, .int e5), (10, .int y10), (11, .int x11), (12, .int v), (13, .int x13), (14, .int x14_137)] → x_B D cs base ad n st σc s H locs → W p l e (x_rm 1 0 0) s m ([.ref (ad 7 0), .int a, .int b, .int d, .int e0, .int e1, .int e2, .int e3, .int e4, .int e5] : List Value).toArray below meth c H locs 0 0 (MQ below (va_Qi (q_X7_shell σ a b d e0 e1 e2 e3 e4 e5 nS) (fun σ' => x_U D cs base ad n st σ') (x_A base)) ([.ref (ad 7 0), .int a, .int b, .int d, .int e0, .int e1, .int e2, .int e3, .int e4, .int e5] : List Value).toArray s 0 0 (x_A base)) (F0 m 156 ls [.int z]) := by
                                intro z hz9 H locs ls hl hw
                                refine lv_istore (lv' := [(10, .int z), (0, .ref (ad 7 0)), (1, .int a), (2, .int b), (3, .int d), (4, .int e0), (5, .int e1), (6, .int e2), (7, .int e3), (8, .int e4), (9, .int e5), (11, .int x11), (12, .int v), (13, .int x13), (14, .int x14_137)]) hx hb dX7_shell_156 hl (by decide) rfl (fun ls hl => ?_)
                                refine lv_aload_n hx hb dX7_shell_158 rfl (lv_at hl 1 rfl) ?_
                                refine xg_r hc hw 7 0 9 rfl rfl rfl rfl (by decide) (h7) ((hm 39 (by decide) (by decide)).2) mw_696 dX7_shell_159 ?_
                                refine lv_bipush (v := 36) hx hb dX7_shell_162 (by decide) ?_
                                refine lv_aload_n hx hb dX7_shell_164 rfl (lv_at hl 1 rfl) ?_
                                refine xg_i hc hw 7 0 1 rfl rfl rfl rfl (by decide) (h7) mw_688 dX7_shell_165 ?_
                                refine lv_imul hx hb dX7_shell_168 ?_
                                refine lv_iload_n hx hb dX7_shell_169 rfl (lv_at hl 3 rfl) ?_
                                refine lv_iload hx hb dX7_shell_170 (lv_at hl 11 rfl) ?_
                                refine lv_imul hx hb dX7_shell_172 ?_
                                refine lv_iadd hx hb dX7_shell_173 ?_
                                refine lv_iload hx hb dX7_shell_174 (lv_at hl 13 rfl) ?_
                                refine lv_iadd hx hb dX7_shell_176 ?_
                                refine lv_iload hx hb dX7_shell_177 (lv_at hl 14 rfl) ?_
                                refine xa_st hc hw 39 0 (36 * nS + x_c b * r + c9) rfl ((hm 39 (by decide) (by decide)).1) (by rw [hS3, h11, h13]; exact x_36 hb1) (by have q : x_c b * r ≤ 6 * 5 := Nat.mul_le_mul hb2 (by omega); show _ < 1080; omega) dX7_shell_179 (fun H locs hw => ?_)
                                obtain ⟨x13_180, ex13_180⟩ : ∃ y : Int32, y = x13 + 1 := ⟨_, rfl⟩
                                refine lv_iinc (v := x13_180) (lv' := [(13, .int x13_180), (10, .int z), (0, .ref (ad 7 0)), (1, .int a), (2, .int b), (3, .int d), (4, .int e0), (5, .int e1), (6, .int e2), (7, .int e3), (8, .int e4), (9, .int e5), (11, .int x11), (12, .int v), (14, .int x14_137)]) hx hb dX7_shell_180 hl (k := 13) rfl (by rw [ex13_180]; rfl) (by decide) rfl (fun ls hl => ?_)
                                refine lv_goto (tgt := 121) hx hb dX7_shell_183 (by decide) ?_
                                exact ih_121 (c9 + 1) _ _ _ (by omega) (by rw [ex13_180, h13, nI_1]) (by simpa [x_up] using hS3) (by have et : x14_137 = m_tk v x13 := ex14_137; rw [← h13, ← h11, ← hv, ← et, ← hz9] at hJ; rw [← h11, ← hv]; exact hJ) (by omega) _ _ _ (lv_sub hl [2, 3, 4, 5, 6, 7, 8, 9, 10, 11, 1, 12, 13, 0] rfl) hw
                              refine lv_iload hx hb dX7_shell_139 (lv_at hl 11 rfl) ?_
                              refine lv_if_eq (tgt := 155) hx hb dX7_shell_141 (by decide) (fun c_141 => ?_) (fun c_141 => ?_)
                              · refine lv_iconst (v := 0) hx hb dX7_shell_155 (by decide) ?_
                                exact cut_156 _ (by clear ha1 hb1 hI hJ hS1 hS3 ex14_137; simp_all [← Int32.not_le]) _ _ _ (lv_sub hl [1, 2, 3, 4, 5, 6, 7, 8, 9, 10, 11, 12, 13, 14, 0] rfl) hw
                              · refine lv_iload hx hb dX7_shell_144 (lv_at hl 0 rfl) ?_
                                refine lv_bipush (v := 9) hx hb dX7_shell_146 (by decide) ?_
                                refine lv_icmp_gt (tgt := 155) hx hb dX7_shell_148 (by decide) (fun c_148 => ?_) (fun c_148 => ?_)
                                · refine lv_iconst (v := 0) hx hb dX7_shell_155 (by decide) ?_
                                  exact cut_156 _ (by clear ha1 hb1 hI hJ hS1 hS3 ex14_137; simp_all [← Int32.not_le]) _ _ _ (lv_sub hl [1, 2, 3, 4, 5, 6, 7, 8, 9, 10, 11, 12, 13, 14, 0] rfl) hw
                                · refine lv_iconst (v := 1) hx hb dX7_shell_151 (by decide) ?_
                                  refine lv_goto (tgt := 156) hx hb dX7_shell_152 (by decide) ?_
                                  exact cut_156 _ (by clear ha1 hb1 hI hJ hS1 hS3 ex14_137; simp_all [← Int32.not_le]) _ _ _ (lv_sub hl [1, 2, 3, 4, 5, 6, 7, 8, 9, 10, 11, 12, 13, 14, 0] rfl) hw
                        exact cut_121 _ 0 _ _ _ (Nat.zero_le _) (rfl) (hS1) (rfl) (Nat.lt_succ_self _) _ _ _ (lv_sub hl [2, 3, 4, 5, 6, 7, 8, 9, 10, 11, 12, 13, 1, 0] rfl) hw
                      refine lv_iload hx hb dX7_shell_60 (lv_at hl 11 rfl) ?_
                      refine lv_if_ne (tgt := 70) hx hb dX7_shell_62 (by decide) (fun c_62 => ?_) (fun c_62 => ?_)
                      · refine lv_iload hx hb dX7_shell_70 (lv_at hl 11 rfl) ?_
                        refine lv_iconst (v := 1) hx hb dX7_shell_72 (by decide) ?_
                        refine lv_icmp_ne (tgt := 81) hx hb dX7_shell_73 (by decide) (fun c_73 => ?_) (fun c_73 => ?_)
                        · refine lv_iload hx hb dX7_shell_81 (lv_at hl 11 rfl) ?_
                          refine lv_iconst (v := 2) hx hb dX7_shell_83 (by decide) ?_
                          refine lv_icmp_ne (tgt := 92) hx hb dX7_shell_84 (by decide) (fun c_84 => ?_) (fun c_84 => ?_)
                          · refine lv_iload hx hb dX7_shell_92 (lv_at hl 11 rfl) ?_
                            refine lv_iconst (v := 3) hx hb dX7_shell_94 (by decide) ?_
                            refine lv_icmp_ne (tgt := 103) hx hb dX7_shell_95 (by decide) (fun c_95 => ?_) (fun c_95 => ?_)
                            · refine lv_iload hx hb dX7_shell_103 (lv_at hl 11 rfl) ?_
                              refine lv_iconst (v := 4) hx hb dX7_shell_105 (by decide) ?_
                              refine lv_icmp_ne (tgt := 114) hx hb dX7_shell_106 (by decide) (fun c_106 => ?_) (fun c_106 => ?_)
                              · refine lv_iload hx hb dX7_shell_114 (lv_at hl 9 rfl) ?_
                                exact cut_116 _ (by clear ha1 hb1 hI hS1 h11; simp_all [m_rv]) _ _ _ (lv_sub hl [0, 1, 2, 3, 4, 5, 6, 7, 8, 9, 10, 11] rfl) hw
                              · refine lv_iload hx hb dX7_shell_109 (lv_at hl 8 rfl) ?_
                                refine lv_goto (tgt := 116) hx hb dX7_shell_111 (by decide) ?_
                                exact cut_116 _ (by clear ha1 hb1 hI hS1 h11; simp_all [m_rv]) _ _ _ (lv_sub hl [0, 1, 2, 3, 4, 5, 6, 7, 8, 9, 10, 11] rfl) hw
                            · refine lv_iload hx hb dX7_shell_98 (lv_at hl 7 rfl) ?_
                              refine lv_goto (tgt := 116) hx hb dX7_shell_100 (by decide) ?_
                              exact cut_116 _ (by clear ha1 hb1 hI hS1 h11; simp_all [m_rv]) _ _ _ (lv_sub hl [0, 1, 2, 3, 4, 5, 6, 7, 8, 9, 10, 11] rfl) hw
                          · refine lv_iload hx hb dX7_shell_87 (lv_at hl 6 rfl) ?_
                            refine lv_goto (tgt := 116) hx hb dX7_shell_89 (by decide) ?_
                            exact cut_116 _ (by clear ha1 hb1 hI hS1 h11; simp_all [m_rv]) _ _ _ (lv_sub hl [0, 1, 2, 3, 4, 5, 6, 7, 8, 9, 10, 11] rfl) hw
                        · refine lv_iload hx hb dX7_shell_76 (lv_at hl 5 rfl) ?_
                          refine lv_goto (tgt := 116) hx hb dX7_shell_78 (by decide) ?_
                          exact cut_116 _ (by clear ha1 hb1 hI hS1 h11; simp_all [m_rv]) _ _ _ (lv_sub hl [0, 1, 2, 3, 4, 5, 6, 7, 8, 9, 10, 11] rfl) hw
                      · refine lv_iload hx hb dX7_shell_65 (lv_at hl 4 rfl) ?_
                        refine lv_goto (tgt := 116) hx hb dX7_shell_67 (by decide) ?_
                        exact cut_116 _ (by clear ha1 hb1 hI hS1 h11; simp_all [m_rv]) _ _ _ (lv_sub hl [0, 1, 2, 3, 4, 5, 6, 7, 8, 9, 10, 11] rfl) hw
                exact cut_54 _ 0 _ _ _ (Nat.zero_le _) (rfl) (by simpa [x_up] using hS) (rfl) (Nat.lt_succ_self _) _ _ _ (lv_sub hl [2, 3, 4, 5, 6, 7, 8, 9, 10, 11, 1, 0] rfl) hw
              · exact cut_46 (fun q => by clear hS; simp_all [← Int32.not_le]) _ _ _ (lv_sub hl [0, 1, 2, 3, 4, 5, 6, 7, 8, 9] rfl) hw
