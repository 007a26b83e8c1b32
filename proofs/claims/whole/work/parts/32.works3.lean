theorem x_nneq {x : Int32} {k n : Nat} (h : x = nI k) (hk : k < 2 ^ 31) (hn : n < 2 ^ 31) (h0 : x = nI n) : k = n := (nI_eq hk hn).mp (h.symm.trans h0)
def f_fd (σ : x_St) (sz ho ti a b : Int32) : Nat → Nat → Int32 → Nat → Int32 × Nat
  | 0, _, fi, n => (fi, n)
  | f + 1, i, fi, n => if n = 12 then (fi, n) else if f_fit σ i sz ho ti a b then f_fd σ sz ho ti a b f (i + 1) (if n = 0 then nI i else fi) (n + 1) else f_fd σ sz ho ti a b f (i + 1) fi n
theorem f_fd_12 (σ : x_St) (sz ho ti a b : Int32) (f i : Nat) (fi : Int32) : f_fd σ sz ho ti a b f i fi 12 = (fi, 12) := by
  cases f with
  | zero => rfl
  | succ f => rw [f_fd, if_pos rfl]
def f_first (σ : x_St) (j nB : Nat) (a b : Int32) : Int32 := if (f_fd σ (σ 1 j 0) (σ 1 j 1) (σ 1 j 2) a b nB 0 (-1) 0).2 = 12 then (f_fd σ (σ 1 j 0) (σ 1 j 1) (σ 1 j 2) a b nB 0 (-1) 0).1 else -1
def f_bt (σ : x_St) (j : Nat) (sp : Int32) (nB : Nat) : Nat → Nat → Int32 → Int32 → Int32 × Int32
  | 0, _, be, bf => (be, bf)
  | f + 1, tt, be, bf => if ¬ f_first σ j nB (nI tt) (nI tt + sp) = -1 ∧ f_first σ j nB (nI tt) (nI tt + sp) < bf then f_bt σ j sp nB f (tt + 1) (nI tt) (f_first σ j nB (nI tt) (nI tt + sp)) else f_bt σ j sp nB f (tt + 1) be bf
def f_sd (j : Nat) (a b : Int32) : Nat → Nat → Nat → x_St → x_St
  | 0, _, _, σ => σ
  | f + 1, k, n, σ => if n = 12 then σ else if f_fit σ k (σ 1 j 0) (σ 1 j 1) (σ 1 j 2) a b then f_sd j a b f (k + 1) (n + 1) (x_up (x_up (f_sew σ j n (nI k) (σ 0 k 1)) 0 k 5 4) 0 k 8 (σ 6 0 6)) else f_sd j a b f (k + 1) n σ
theorem f_sd_12 (j : Nat) (a b : Int32) (f k : Nat) (σ : x_St) : f_sd j a b f k 12 σ = σ := by
  cases f with
  | zero => rfl
  | succ f => rw [f_sd, if_pos rfl]
def f_nr (σ : x_St) (o : Nat) : Nat → Nat → Nat
  | 0, _ => 0
  | f + 1, c => (if f_tak σ o c then 1 else 0) + f_nr σ o f (c + 1)
def f_gv (o : Nat) (v : Int32) : Nat → Nat → Nat → x_St → x_St
  | 0, _, _, σ => σ
  | f + 1, c, r, σ => if r = 0 then σ else if f_tak σ o c then f_gv o v f (c + 1) (r - 1) (x_up σ 1 c 6 v) else f_gv o v f (c + 1) r σ
theorem f_gv_0 (o : Nat) (v : Int32) (f c : Nat) (σ : x_St) : f_gv o v f c 0 σ = σ := by
  cases f with
  | zero => rfl
  | succ f => rw [f_gv, if_pos rfl]

/-- X6_firstOfDozen -/
def q_X6_firstOfDozen (σ : x_St) (j : Nat) (a b : Int32) (nB : Nat) : Int32 → x_St → Prop := fun r σ' => σ' = σ ∧ r = f_first σ j nB a b
set_option maxHeartbeats 4000000 in
set_option maxRecDepth 100000 in
theorem c_X6_firstOfDozen {l : Launch} {D : va_G} {cs : Nat → ClassId} {base : Nat} {ad : Nat → Nat → Nat} {nS nB nC nD nO : Nat} {σ : x_St} (j : Nat) (a b : Int32) (hj : j < nD) (hB : σ 6 0 3 = nI nB) (hB0 : nB ≤ 400) : x_Ci l yX6_firstOfDozen cX6_firstOfDozen 7 (some .int) 5 0 0 D cs base ad (x_n nS nB nD nO) (x_s nS nB nC nO nS nD) σ [.ref (ad 6 0), .ref (ad 1 j), .int a, .int b] (q_X6_firstOfDozen σ j a b nB) (fun σ' => x_U D cs base ad (x_n nS nB nD nO) (x_s nS nB nC nO nS nD) σ') := by
  refine Met.ofW (cc := cX6_firstOfDozen) (maxL := 7) (ret := some .int) (by decide) rfl ?_
  intro p e s m args below meth c s₁ B hml hv
  obtain ⟨rfl, hU⟩ := hv
  have hx := B.exec
  have hb := B.bytes
  have hr := B.returns
  have hts := atoms_spec (ws := Cond.code yX6_firstOfDozen cX6_firstOfDozen 7 (some .int) :: Tw) B.pre
  have hown : s.vm.findClass RX6 = some m.cls := findClass_of_methodNamed B.named
  have hlocks := B.notSynchronized
  have hc : CallFix p m c cX6_firstOfDozen 7 s (([.ref (ad 6 0), .ref (ad 1 j), .int a, .int b] : List Value).toArray) Tw RX6 := ⟨hx, hb, hml, hown, fun w hw => hts w (List.mem_cons_of_mem _ hw)⟩
  have hw := x_B.start hU
  have hl := lv_entry ([.ref (ad 6 0), .ref (ad 1 j), .int a, .int b]) (n := 7) (Nat.le_of_ble_eq_true rfl)
  rw [lg_entry_eq]
  generalize (lg_sl ([.ref (ad 6 0), .ref (ad 1 j), .int a, .int b]) ++ List.replicate (7 - (lg_sl ([.ref (ad 6 0), .ref (ad 1 j), .int a, .int b])).length) Slot.unset).toArray = ls at hl ⊢
  have hl : lv_has ls 7 [(0, .ref (ad 6 0)), (1, .ref (ad 1 j)), (2, .int a), (3, .int b)] := hl
  show W p l e (x_rm 5 0 0) s m ([.ref (ad 6 0), .ref (ad 1 j), .int a, .int b] : List Value).toArray below meth c s.heap [] 0 0 (MQ below (va_Qi (q_X6_firstOfDozen σ j a b nB) (fun σ' => x_U D cs base ad (x_n nS nB nD nO) (x_s nS nB nC nO nS nD) σ') (x_A base)) ([.ref (ad 6 0), .ref (ad 1 j), .int a, .int b] : List Value).toArray s 0 0 (x_A base)) (F0 m 0 ls [])
  refine lv_iconst (v := (-1)) hx hb dX6_firstOfDozen_0 (by decide) ?_
  refine lv_istore (lv' := [(4, .int (-1)), (0, .ref (ad 6 0)), (1, .ref (ad 1 j)), (2, .int a), (3, .int b)]) hx hb dX6_firstOfDozen_1 hl (by decide) rfl (fun ls hl => ?_)
  refine lv_iconst (v := 0) hx hb dX6_firstOfDozen_3 (by decide) ?_
  refine lv_istore (lv' := [(5, .int 0), (4, .int (-1)), (0, .ref (ad 6 0)), (1, .ref (ad 1 j)), (2, .int a), (3, .int b)]) hx hb dX6_firstOfDozen_4 hl (by decide) rfl (fun ls hl => ?_)
  refine lv_iconst (v := 0) hx hb dX6_firstOfDozen_6 (by decide) ?_
  refine lv_istore (lv' := [(6, .int 0), (5, .int 0), (4, .int (-1)), (0, .ref (ad 6 0)), (1, .ref (ad 1 j)), (2, .int a), (3, .int b)]) hx hb dX6_firstOfDozen_7 hl (by decide) rfl (fun ls hl => ?_)
  have cut_9 : ∀ (N : Nat) (k : Nat) (nn : Nat) (x4 : Int32) (x5 : Int32) (x6 : Int32), (k ≤ nB) → (nn ≤ 12) → (x5 = nI nn) → (x6 = nI k) → (f_fd σ (σ 1 j 0) (σ 1 j 1) (σ 1 j 2) a b (nB - k) k x4 nn = f_fd σ (σ 1 j 0) (σ 1 j 1) (σ 1 j 2) a b nB 0 (-1) 0) → (nB - k < N) → ∀ (H : Heap) (locs : List Loc) (ls : Array Slot), lv_has ls 7 [(0, .ref (ad 6 0)), (1, .ref (ad 1 j)), (2, .int a), (3, .int b), (4, .int x4), (5, .int x5), (6, .int x6)] → x_B D cs base ad (x_n nS nB nD nO) (x_s nS nB nC nO nS nD) σ s H locs → W p l e (x_rm 5 0 0) s m ([.ref (ad 6 0), .ref (ad 1 j), .int a, .int b] : List Value).toArray below meth c H locs 0 0 (MQ below (va_Qi (q_X6_firstOfDozen σ j a b nB) (fun σ' => x_U D cs base ad (x_n nS nB nD nO) (x_s nS nB nC nO nS nD) σ') (x_A base)) ([.ref (ad 6 0), .ref (ad 1 j), .int a, .int b] : List Value).toArray s 0 0 (x_A base)) (F0 m 9 ls []) := by
    intro N
    induction N with
    | zero => intro k nn x4 x5 x6 hk hnn h5 h6c hI hN; exact absurd hN (Nat.not_lt_zero _)
    | succ N ih_9 =>
      intro k nn x4 x5 x6 hk hnn h5 h6c hI hN H locs ls hl hw
      refine lv_iload hx hb dX6_firstOfDozen_9 (lv_at hl 6 rfl) ?_
      refine lv_aload_n hx hb dX6_firstOfDozen_11 rfl (lv_at hl 0 rfl) ?_
      refine xg_i hc hw 6 0 3 rfl rfl rfl rfl (by decide) (Nat.zero_lt_one) mw_82 dX6_firstOfDozen_12 ?_
      refine lv_icmp_ge (tgt := 64) hx hb dX6_firstOfDozen_15 (by decide) (fun c_15 => ?_) (fun c_15 => ?_)
      · refine lv_iload hx hb dX6_firstOfDozen_64 (lv_at hl 5 rfl) ?_
        refine lv_bipush (v := 12) hx hb dX6_firstOfDozen_66 (by decide) ?_
        refine lv_icmp_ne (tgt := 76) hx hb dX6_firstOfDozen_68 (by decide) (fun c_68 => ?_) (fun c_68 => ?_)
        · refine lv_iconst (v := (-1)) hx hb dX6_firstOfDozen_76 (by decide) ?_
          exact xr_i hc hlocks hr rfl hw (⟨rfl, by first | (have hz := x_ge h6c hB (by omega) (by omega) c_15; rw [show nB - k = 0 by omega, f_fd] at hI; rw [f_first, ← hI]; exact (if_neg (fun q => c_68 (by rw [h5, show nn = 12 from q]; rfl))).symm) | (have hz := x_ge h5 (b := 12) rfl (by omega) (by decide) c_22; rw [show nn = 12 by omega, f_fd_12] at hI; rw [f_first, ← hI]; exact absurd (by rw [h5, show nn = 12 by omega]; rfl) c_68)⟩) (Nat.le_of_ble_eq_true rfl) (Nat.le_of_ble_eq_true rfl) dX6_firstOfDozen_77
        · refine lv_iload hx hb dX6_firstOfDozen_71 (lv_at hl 4 rfl) ?_
          refine lv_goto (tgt := 77) hx hb dX6_firstOfDozen_73 (by decide) ?_
          exact xr_i hc hlocks hr rfl hw (⟨rfl, by first | (have hz := x_ge h6c hB (by omega) (by omega) c_15; rw [show nB - k = 0 by omega, f_fd] at hI; rw [f_first, ← hI]; exact (if_pos (x_nneq h5 (by omega) (n := 12) (by decide) c_68)).symm) | (have hz := x_ge h5 (b := 12) rfl (by omega) (by decide) c_22; rw [show nn = 12 by omega, f_fd_12] at hI; rw [f_first, ← hI]; exact (if_pos rfl).symm)⟩) (Nat.le_of_ble_eq_true rfl) (Nat.le_of_ble_eq_true rfl) dX6_firstOfDozen_77
      · refine lv_iload hx hb dX6_firstOfDozen_18 (lv_at hl 5 rfl) ?_
        refine lv_bipush (v := 12) hx hb dX6_firstOfDozen_20 (by decide) ?_
        refine lv_icmp_ge (tgt := 64) hx hb dX6_firstOfDozen_22 (by decide) (fun c_22 => ?_) (fun c_22 => ?_)
        · refine lv_iload hx hb dX6_firstOfDozen_64 (lv_at hl 5 rfl) ?_
          refine lv_bipush (v := 12) hx hb dX6_firstOfDozen_66 (by decide) ?_
          refine lv_icmp_ne (tgt := 76) hx hb dX6_firstOfDozen_68 (by decide) (fun c_68 => ?_) (fun c_68 => ?_)
          · refine lv_iconst (v := (-1)) hx hb dX6_firstOfDozen_76 (by decide) ?_
            exact xr_i hc hlocks hr rfl hw (⟨rfl, by first | (have hz := x_ge h6c hB (by omega) (by omega) c_15; rw [show nB - k = 0 by omega, f_fd] at hI; rw [f_first, ← hI]; exact (if_neg (fun q => c_68 (by rw [h5, show nn = 12 from q]; rfl))).symm) | (have hz := x_ge h5 (b := 12) rfl (by omega) (by decide) c_22; rw [show nn = 12 by omega, f_fd_12] at hI; rw [f_first, ← hI]; exact absurd (by rw [h5, show nn = 12 by omega]; rfl) c_68)⟩) (Nat.le_of_ble_eq_true rfl) (Nat.le_of_ble_eq_true rfl) dX6_firstOfDozen_77
          · refine lv_iload hx hb dX6_firstOfDozen_71 (lv_at hl 4 rfl) ?_
            refine lv_goto (tgt := 77) hx hb dX6_firstOfDozen_73 (by decide) ?_
            exact xr_i hc hlocks hr rfl hw (⟨rfl, by first | (have hz := x_ge h6c hB (by omega) (by omega) c_15; rw [show nB - k = 0 by omega, f_fd] at hI; rw [f_first, ← hI]; exact (if_pos (x_nneq h5 (by omega) (n := 12) (by decide) c_68)).symm) | (have hz := x_ge h5 (b := 12) rfl (by omega) (by decide) c_22; rw [show nn = 12 by omega, f_fd_12] at hI; rw [f_first, ← hI]; exact (if_pos rfl).symm)⟩) (Nat.le_of_ble_eq_true rfl) (Nat.le_of_ble_eq_true rfl) dX6_firstOfDozen_77
        · have hlt : k < nB := x_nge h6c hB (by omega) (by omega) c_15
          have hn12 : nn < 12 := x_nge h5 (b := 12) rfl (by omega) (by decide) c_22
          have hst : nB - k = (nB - (k + 1)) + 1 := by omega
          rw [hst, f_fd, if_neg (by omega)] at hI
          have cut_58 : ∀ (n2 : Nat) (y4 : Int32) (y5 : Int32), (n2 ≤ 12) → (y5 = nI n2) → (f_fd σ (σ 1 j 0) (σ 1 j 1) (σ 1 j 2) a b (nB - (k + 1)) (k + 1) y4 n2 = f_fd σ (σ 1 j 0) (σ 1 j 1) (σ 1 j 2) a b nB 0 (-1) 0) → ∀ (H : Heap) (locs : List Loc) (ls : Array Slot), lv_has ls 7 [(0, .ref (ad 6 0)), (1, .ref (ad 1 j)), (2, .int a), (3, .int b), (4, .int y4), (5, .int y5), (6, .int x6)] → x_B D cs base ad (x_n nS nB nD nO) (x_s nS nB nC nO nS nD) σ s H locs → W p l e (x_rm 5 0 0) s m ([.ref (ad 6 0), .ref (ad 1 j), .int a, .int b] : List Value).toArray below meth c H locs 0 0 (MQ below (va_Qi (q_X6_firstOfDozen σ j a b nB) (fun σ' => x_U D cs base ad (x_n nS nB nD nO) (x_s nS nB nC nO nS nD) σ') (x_A base)) ([.ref (ad 6 0), .ref (ad 1 j), .int a, .int b] : List Value).toArray s 0 0 (x_A base)) (F0 m 58 ls []) := by
            intro n2 y4 y5 hn2 h5d hId H locs ls hl hw
            obtain ⟨x6_58, ex6_58⟩ : ∃ y : Int32, y = x6 + 1 := ⟨_, rfl⟩
            refine lv_iinc (v := x6_58) (lv' := [(6, .int x6_58), (0, .ref (ad 6 0)), (1, .ref (ad 1 j)), (2, .int a), (3, .int b), (4, .int y4), (5, .int y5)]) hx hb dX6_firstOfDozen_58 hl (k := 6) rfl (by rw [ex6_58]; rfl) (by decide) rfl (fun ls hl => ?_)
            refine lv_goto (tgt := 9) hx hb dX6_firstOfDozen_61 (by decide) ?_
            exact ih_9 (k + 1) n2 _ _ _ (by omega) (hn2) (h5d) (by rw [ex6_58, h6c, nI_1]) (hId) (by omega) _ _ _ (lv_sub hl [1, 2, 3, 4, 5, 6, 0] rfl) hw
          refine lv_aload_n hx hb dX6_firstOfDozen_25 rfl (lv_at hl 0 rfl) ?_
          refine xg_r hc hw 6 0 2 rfl rfl rfl rfl (by decide) (Nat.zero_lt_one) (Nat.zero_lt_one) mw_81 dX6_firstOfDozen_26 ?_
          refine lv_iload hx hb dX6_firstOfDozen_29 (lv_at hl 6 rfl) ?_
          refine xa_rld hc hw 21 0 k rfl (Nat.zero_lt_one) (h6c) (by show _ < 400; omega) (hlt) dX6_firstOfDozen_31 ?_
          refine lv_aload_n hx hb dX6_firstOfDozen_32 rfl (lv_at hl 1 rfl) ?_
          refine lv_iload_n hx hb dX6_firstOfDozen_33 rfl (lv_at hl 2 rfl) ?_
          refine lv_iload_n hx hb dX6_firstOfDozen_34 rfl (lv_at hl 3 rfl) ?_
          refine xc_Vi hc hw 0 k (c_X0_fits k j a b (hlt) (hj)) rfl rfl (hlt) mw_606 mw_603 mw_13 mw_604 mw_605 xd_X0_fits ⟨by decide, by decide⟩ (rfl) hl.1 (Nat.le_of_ble_eq_true rfl) dX6_firstOfDozen_35 ⟨Nat.le_of_ble_eq_true rfl, Nat.le_of_ble_eq_true rfl⟩ (fun r_35 σ_35 H locs hq hw => ?_)
          obtain ⟨hσ_35, hr_35⟩ := hq
          rw [hσ_35] at hw
          refine lv_if_eq (tgt := 58) hx hb dX6_firstOfDozen_38 (by decide) (fun c_38 => ?_) (fun c_38 => ?_)
          · exact cut_58 nn _ _ (hnn) (h5) (by rw [if_neg (x_if0 hr_35 c_38)] at hI; exact hI) _ _ _ (lv_sub hl [0, 1, 2, 3, 4, 5, 6] rfl) hw
          · have hF := x_if1 hr_35 c_38
            rw [if_pos hF] at hI
            refine lv_iload hx hb dX6_firstOfDozen_41 (lv_at hl 5 rfl) ?_
            refine lv_if_ne (tgt := 51) hx hb dX6_firstOfDozen_43 (by decide) (fun c_43 => ?_) (fun c_43 => ?_)
            · refine lv_iload hx hb dX6_firstOfDozen_51 (lv_at hl 4 rfl) ?_
              refine lv_istore (lv' := [(4, .int x4), (0, .ref (ad 6 0)), (1, .ref (ad 1 j)), (2, .int a), (3, .int b), (5, .int x5), (6, .int x6)]) hx hb dX6_firstOfDozen_53 hl (by decide) rfl (fun ls hl => ?_)
              obtain ⟨x5_55, ex5_55⟩ : ∃ y : Int32, y = x5 + 1 := ⟨_, rfl⟩
              refine lv_iinc (v := x5_55) (lv' := [(5, .int x5_55), (4, .int x4), (0, .ref (ad 6 0)), (1, .ref (ad 1 j)), (2, .int a), (3, .int b), (6, .int x6)]) hx hb dX6_firstOfDozen_55 hl (k := 5) rfl (by rw [ex5_55]; rfl) (by decide) rfl (fun ls hl => ?_)
              exact cut_58 (nn + 1) _ _ (by omega) (by rw [ex5_55, h5, nI_1]) (by first | (rw [if_pos (x_nn0 h5 (by omega) c_43), ← h6c] at hI; exact hI) | (rw [if_neg (x_nn1 h5 c_43)] at hI; exact hI)) _ _ _ (lv_sub hl [2, 3, 4, 5, 1, 0, 6] rfl) hw
            · refine lv_iload hx hb dX6_firstOfDozen_46 (lv_at hl 6 rfl) ?_
              refine lv_goto (tgt := 53) hx hb dX6_firstOfDozen_48 (by decide) ?_
              refine lv_istore (lv' := [(4, .int x6), (0, .ref (ad 6 0)), (1, .ref (ad 1 j)), (2, .int a), (3, .int b), (5, .int x5), (6, .int x6)]) hx hb dX6_firstOfDozen_53 hl (by decide) rfl (fun ls hl => ?_)
              obtain ⟨x5_55, ex5_55⟩ : ∃ y : Int32, y = x5 + 1 := ⟨_, rfl⟩
              refine lv_iinc (v := x5_55) (lv' := [(5, .int x5_55), (4, .int x6), (0, .ref (ad 6 0)), (1, .ref (ad 1 j)), (2, .int a), (3, .int b), (6, .int x6)]) hx hb dX6_firstOfDozen_55 hl (k := 5) rfl (by rw [ex5_55]; rfl) (by decide) rfl (fun ls hl => ?_)
              exact cut_58 (nn + 1) _ _ (by omega) (by rw [ex5_55, h5, nI_1]) (by first | (rw [if_pos (x_nn0 h5 (by omega) c_43), ← h6c] at hI; exact hI) | (rw [if_neg (x_nn1 h5 c_43)] at hI; exact hI)) _ _ _ (lv_sub hl [2, 3, 4, 5, 1, 0, 6] rfl) hw
  exact cut_9 _ 0 0 _ _ _ (Nat.zero_le _) (by decide) (rfl) (rfl) (rfl) (Nat.lt_succ_self _) _ _ _ (lv_sub hl [3, 4, 5, 6, 2, 1, 0] rfl) hw
/-- X6_bestLeastThickness -/
def q_X6_bestLeastThickness (σ : x_St) (j : Nat) (b : Int32) (nB : Nat) : Int32 → x_St → Prop := fun r σ' => σ' = σ ∧ r = (f_bt σ j b nB 9 1 (-1) 400).1
set_option maxHeartbeats 4000000 in
set_option maxRecDepth 100000 in
theorem c_X6_bestLeastThickness {l : Launch} {D : va_G} {cs : Nat → ClassId} {base : Nat} {ad : Nat → Nat → Nat} {nS nB nC nD nO : Nat} {σ : x_St} (j : Nat) (b : Int32) (hj : j < nD) (hB : σ 6 0 3 = nI nB) (hB0 : nB ≤ 400) : x_Ci l yX6_bestLeastThickness cX6_bestLeastThickness 7 (some .int) 7 0 0 D cs base ad (x_n nS nB nD nO) (x_s nS nB nC nO nS nD) σ [.ref (ad 6 0), .ref (ad 1 j), .int b] (q_X6_bestLeastThickness σ j b nB) (fun σ' => x_U D cs base ad (x_n nS nB nD nO) (x_s nS nB nC nO nS nD) σ') := by
  refine Met.ofW (cc := cX6_bestLeastThickness) (maxL := 7) (ret := some .int) (by decide) rfl ?_
  intro p e s m args below meth c s₁ B hml hv
  obtain ⟨rfl, hU⟩ := hv
  have hx := B.exec
  have hb := B.bytes
  have hr := B.returns
  have hts := atoms_spec (ws := Cond.code yX6_bestLeastThickness cX6_bestLeastThickness 7 (some .int) :: Tw) B.pre
  have hown : s.vm.findClass RX6 = some m.cls := findClass_of_methodNamed B.named
  have hlocks := B.notSynchronized
  have hc : CallFix p m c cX6_bestLeastThickness 7 s (([.ref (ad 6 0), .ref (ad 1 j), .int b] : List Value).toArray) Tw RX6 := ⟨hx, hb, hml, hown, fun w hw => hts w (List.mem_cons_of_mem _ hw)⟩
  have hw := x_B.start hU
  have hl := lv_entry ([.ref (ad 6 0), .ref (ad 1 j), .int b]) (n := 7) (Nat.le_of_ble_eq_true rfl)
  rw [lg_entry_eq]
  generalize (lg_sl ([.ref (ad 6 0), .ref (ad 1 j), .int b]) ++ List.replicate (7 - (lg_sl ([.ref (ad 6 0), .ref (ad 1 j), .int b])).length) Slot.unset).toArray = ls at hl ⊢
  have hl : lv_has ls 7 [(0, .ref (ad 6 0)), (1, .ref (ad 1 j)), (2, .int b)] := hl
  show W p l e (x_rm 7 0 0) s m ([.ref (ad 6 0), .ref (ad 1 j), .int b] : List Value).toArray below meth c s.heap [] 0 0 (MQ below (va_Qi (q_X6_bestLeastThickness σ j b nB) (fun σ' => x_U D cs base ad (x_n nS nB nD nO) (x_s nS nB nC nO nS nD) σ') (x_A base)) ([.ref (ad 6 0), .ref (ad 1 j), .int b] : List Value).toArray s 0 0 (x_A base)) (F0 m 0 ls [])
  refine lv_iconst (v := (-1)) hx hb dX6_bestLeastThickness_0 (by decide) ?_
  refine lv_istore_n (lv' := [(3, .int (-1)), (0, .ref (ad 6 0)), (1, .ref (ad 1 j)), (2, .int b)]) hx hb dX6_bestLeastThickness_1 rfl hl (by decide) rfl (fun ls hl => ?_)
  refine lv_sipush (v := 400) hx hb dX6_bestLeastThickness_2 (by decide) ?_
  refine lv_istore (lv' := [(4, .int 400), (3, .int (-1)), (0, .ref (ad 6 0)), (1, .ref (ad 1 j)), (2, .int b)]) hx hb dX6_bestLeastThickness_5 hl (by decide) rfl (fun ls hl => ?_)
  refine lv_iconst (v := 1) hx hb dX6_bestLeastThickness_7 (by decide) ?_
  refine lv_istore (lv' := [(5, .int 1), (4, .int 400), (3, .int (-1)), (0, .ref (ad 6 0)), (1, .ref (ad 1 j)), (2, .int b)]) hx hb dX6_bestLeastThickness_8 hl (by decide) rfl (fun ls hl => ?_)
  have cut_10 : ∀ (N : Nat) (tt : Nat) (x3 : Int32) (x4 : Int32) (x5 : Int32), (1 ≤ tt ∧ tt ≤ 10) → (x5 = nI tt) → (f_bt σ j b nB (10 - tt) tt x3 x4 = f_bt σ j b nB 9 1 (-1) 400) → (10 - tt < N) → ∀ (H : Heap) (locs : List Loc) (ls : Array Slot), lv_has ls 7 [(0, .ref (ad 6 0)), (1, .ref (ad 1 j)), (2, .int b), (3, .int x3), (4, .int x4), (5, .int x5)] → x_B D cs base ad (x_n nS nB nD nO) (x_s nS nB nC nO nS nD) σ s H locs → W p l e (x_rm 7 0 0) s m ([.ref (ad 6 0), .ref (ad 1 j), .int b] : List Value).toArray below meth c H locs 0 0 (MQ below (va_Qi (q_X6_bestLeastThickness σ j b nB) (fun σ' => x_U D cs base ad (x_n nS nB nD nO) (x_s nS nB nC nO nS nD) σ') (x_A base)) ([.ref (ad 6 0), .ref (ad 1 j), .int b] : List Value).toArray s 0 0 (x_A base)) (F0 m 10 ls []) := by
    intro N
    induction N with
    | zero => intro tt x3 x4 x5 htt h5 hI hN; exact absurd hN (Nat.not_lt_zero _)
    | succ N ih_10 =>
      intro tt x3 x4 x5 htt h5 hI hN H locs ls hl hw
      refine lv_iload hx hb dX6_bestLeastThickness_10 (lv_at hl 5 rfl) ?_
      refine lv_bipush (v := 9) hx hb dX6_bestLeastThickness_12 (by decide) ?_
      refine lv_icmp_gt (tgt := 56) hx hb dX6_bestLeastThickness_14 (by decide) (fun c_14 => ?_) (fun c_14 => ?_)
      · refine lv_iload_n hx hb dX6_bestLeastThickness_56 rfl (lv_at hl 3 rfl) ?_
        exact xr_i hc hlocks hr rfl hw (⟨rfl, by have hz9 : ¬ tt ≤ 9 := (fun q => absurd (nI_le q (by decide)) (Int32.not_le.mpr (by rw [← h5]; exact c_14))); rw [show 10 - tt = 0 by omega, f_bt] at hI; rw [← hI]⟩) (Nat.le_of_ble_eq_true rfl) (Nat.le_of_ble_eq_true rfl) dX6_bestLeastThickness_57
      · have ht9 : tt ≤ 9 := x_ngt h5 (b := 9) rfl (by omega) (by decide) c_14
        have hst : 10 - tt = (10 - (tt + 1)) + 1 := by omega
        rw [hst, f_bt, ← h5] at hI
        refine lv_aload_n hx hb dX6_bestLeastThickness_17 rfl (lv_at hl 0 rfl) ?_
        refine lv_aload_n hx hb dX6_bestLeastThickness_18 rfl (lv_at hl 1 rfl) ?_
        refine lv_iload hx hb dX6_bestLeastThickness_19 (lv_at hl 5 rfl) ?_
        refine lv_iload hx hb dX6_bestLeastThickness_21 (lv_at hl 5 rfl) ?_
        refine lv_iload_n hx hb dX6_bestLeastThickness_23 rfl (lv_at hl 2 rfl) ?_
        refine lv_iadd hx hb dX6_bestLeastThickness_24 ?_
        refine xc_Vi hc hw 6 0 (c_X6_firstOfDozen j x5 (x5 + b) (hj) hB hB0) rfl rfl (Nat.zero_lt_one) mw_602 mw_599 mw_1 mw_601 mp_14 xd_X6_firstOfDozen ⟨by decide, by decide⟩ (rfl) hl.1 (Nat.le_of_ble_eq_true rfl) dX6_bestLeastThickness_25 ⟨Nat.le_of_ble_eq_true rfl, Nat.le_of_ble_eq_true rfl⟩ (fun r_25 σ_25 H locs hq hw => ?_)
        obtain ⟨hσ_25, hr_25⟩ := hq
        rw [hσ_25] at hw
        rw [← hr_25] at hI
        refine lv_istore (lv' := [(6, .int r_25), (0, .ref (ad 6 0)), (1, .ref (ad 1 j)), (2, .int b), (3, .int x3), (4, .int x4), (5, .int x5)]) hx hb dX6_bestLeastThickness_28 hl (by decide) rfl (fun ls hl => ?_)
        refine lv_iload hx hb dX6_bestLeastThickness_30 (lv_at hl 0 rfl) ?_
        refine lv_iconst (v := (-1)) hx hb dX6_bestLeastThickness_32 (by decide) ?_
        refine lv_icmp_eq (tgt := 50) hx hb dX6_bestLeastThickness_33 (by decide) (fun c_33 => ?_) (fun c_33 => ?_)
        · obtain ⟨x5_50, ex5_50⟩ : ∃ y : Int32, y = x5 + 1 := ⟨_, rfl⟩
          refine lv_iinc (v := x5_50) (lv' := [(5, .int x5_50), (6, .int r_25), (0, .ref (ad 6 0)), (1, .ref (ad 1 j)), (2, .int b), (3, .int x3), (4, .int x4)]) hx hb dX6_bestLeastThickness_50 hl (k := 6) rfl (by rw [ex5_50]; rfl) (by decide) rfl (fun ls hl => ?_)
          refine lv_goto (tgt := 10) hx hb dX6_bestLeastThickness_53 (by decide) ?_
          exact ih_10 (tt + 1) _ _ _ (by omega) (by rw [ex5_50, h5, nI_1]) (by rcases Decidable.em (¬ r_25 = -1 ∧ r_25 < x4) with q | q <;> first | (rw [if_pos q] at hI; first | exact hI | exact absurd q.2 (Int32.not_lt.mpr c_40) | exact absurd c_33 q.1) | (rw [if_neg q] at hI; first | exact hI | exact absurd ⟨c_33, Int32.not_le.mp c_40⟩ q)) (by omega) _ _ _ (lv_sub hl [2, 3, 4, 5, 6, 0] rfl) hw
        · refine lv_iload hx hb dX6_bestLeastThickness_36 (lv_at hl 0 rfl) ?_
          refine lv_iload hx hb dX6_bestLeastThickness_38 (lv_at hl 5 rfl) ?_
          refine lv_icmp_ge (tgt := 50) hx hb dX6_bestLeastThickness_40 (by decide) (fun c_40 => ?_) (fun c_40 => ?_)
          · obtain ⟨x5_50, ex5_50⟩ : ∃ y : Int32, y = x5 + 1 := ⟨_, rfl⟩
            refine lv_iinc (v := x5_50) (lv' := [(5, .int x5_50), (6, .int r_25), (0, .ref (ad 6 0)), (1, .ref (ad 1 j)), (2, .int b), (3, .int x3), (4, .int x4)]) hx hb dX6_bestLeastThickness_50 hl (k := 6) rfl (by rw [ex5_50]; rfl) (by decide) rfl (fun ls hl => ?_)
            refine lv_goto (tgt := 10) hx hb dX6_bestLeastThickness_53 (by decide) ?_
            exact ih_10 (tt + 1) _ _ _ (by omega) (by rw [ex5_50, h5, nI_1]) (by rcases Decidable.em (¬ r_25 = -1 ∧ r_25 < x4) with q | q <;> first | (rw [if_pos q] at hI; first | exact hI | exact absurd q.2 (Int32.not_lt.mpr c_40) | exact absurd c_33 q.1) | (rw [if_neg q] at hI; first | exact hI | exact absurd ⟨c_33, Int32.not_le.mp c_40⟩ q)) (by omega) _ _ _ (lv_sub hl [2, 3, 4, 5, 6, 0] rfl) hw
          · refine lv_iload hx hb dX6_bestLeastThickness_43 (lv_at hl 6 rfl) ?_
            refine lv_istore_n (lv' := [(3, .int x5), (6, .int r_25), (0, .ref (ad 6 0)), (1, .ref (ad 1 j)), (2, .int b), (4, .int x4), (5, .int x5)]) hx hb dX6_bestLeastThickness_45 rfl hl (by decide) rfl (fun ls hl => ?_)
            refine lv_iload hx hb dX6_bestLeastThickness_46 (lv_at hl 1 rfl) ?_
            refine lv_istore (lv' := [(4, .int r_25), (3, .int x5), (6, .int r_25), (0, .ref (ad 6 0)), (1, .ref (ad 1 j)), (2, .int b), (5, .int x5)]) hx hb dX6_bestLeastThickness_48 hl (by decide) rfl (fun ls hl => ?_)
            obtain ⟨x5_50, ex5_50⟩ : ∃ y : Int32, y = x5 + 1 := ⟨_, rfl⟩
            refine lv_iinc (v := x5_50) (lv' := [(5, .int x5_50), (4, .int r_25), (3, .int x5), (6, .int r_25), (0, .ref (ad 6 0)), (1, .ref (ad 1 j)), (2, .int b)]) hx hb dX6_bestLeastThickness_50 hl (k := 6) rfl (by rw [ex5_50]; rfl) (by decide) rfl (fun ls hl => ?_)
            refine lv_goto (tgt := 10) hx hb dX6_bestLeastThickness_53 (by decide) ?_
            exact ih_10 (tt + 1) _ _ _ (by omega) (by rw [ex5_50, h5, nI_1]) (by rcases Decidable.em (¬ r_25 = -1 ∧ r_25 < x4) with q | q <;> first | (rw [if_pos q] at hI; first | exact hI | exact absurd q.2 (Int32.not_lt.mpr c_40) | exact absurd c_33 q.1) | (rw [if_neg q] at hI; first | exact hI | exact absurd ⟨c_33, Int32.not_le.mp c_40⟩ q)) (by omega) _ _ _ (lv_sub hl [4, 5, 6, 2, 1, 0] rfl) hw
  exact cut_10 _ 1 _ _ _ (by decide) (rfl) (rfl) (Nat.lt_succ_self _) _ _ _ (lv_sub hl [3, 4, 5, 2, 1, 0] rfl) hw
/-- X6_sewDozen -/
def q_X6_sewDozen (σ : x_St) (j : Nat) (a b : Int32) (nB : Nat) : x_St → Prop := fun σ' => σ' = f_sd j a b nB 0 0 σ
set_option maxHeartbeats 4000000 in
set_option maxRecDepth 100000 in
theorem c_X6_sewDozen {l : Launch} {D : va_G} {cs : Nat → ClassId} {base : Nat} {ad : Nat → Nat → Nat} {nS nB nC nD nO : Nat} {σ : x_St} (j : Nat) (a b : Int32) (hj : j < nD) (hB : σ 6 0 3 = nI nB) (hB0 : nB ≤ 400) : x_Cv l yX6_sewDozen cX6_sewDozen 6 5 0 0 D cs base ad (x_n nS nB nD nO) (x_s nS nB nC nO nS nD) σ [.ref (ad 6 0), .ref (ad 1 j), .int a, .int b] (q_X6_sewDozen σ j a b nB) (fun σ' => x_U D cs base ad (x_n nS nB nD nO) (x_s nS nB nC nO nS nD) σ') := by
  refine Met.ofW (cc := cX6_sewDozen) (maxL := 6) (ret := none) (by decide) rfl ?_
  intro p e s m args below meth c s₁ B hml hv
  obtain ⟨rfl, hU⟩ := hv
  have hx := B.exec
  have hb := B.bytes
  have hr := B.returns
  have hts := atoms_spec (ws := Cond.code yX6_sewDozen cX6_sewDozen 6 (none) :: Tw) B.pre
  have hown : s.vm.findClass RX6 = some m.cls := findClass_of_methodNamed B.named
  have hlocks := B.notSynchronized
  have hc : CallFix p m c cX6_sewDozen 6 s (([.ref (ad 6 0), .ref (ad 1 j), .int a, .int b] : List Value).toArray) Tw RX6 := ⟨hx, hb, hml, hown, fun w hw => hts w (List.mem_cons_of_mem _ hw)⟩
  have hw := x_B.start hU
  have hl := lv_entry ([.ref (ad 6 0), .ref (ad 1 j), .int a, .int b]) (n := 6) (Nat.le_of_ble_eq_true rfl)
  rw [lg_entry_eq]
  generalize (lg_sl ([.ref (ad 6 0), .ref (ad 1 j), .int a, .int b]) ++ List.replicate (6 - (lg_sl ([.ref (ad 6 0), .ref (ad 1 j), .int a, .int b])).length) Slot.unset).toArray = ls at hl ⊢
  have hl : lv_has ls 6 [(0, .ref (ad 6 0)), (1, .ref (ad 1 j)), (2, .int a), (3, .int b)] := hl
  show W p l e (x_rm 5 0 0) s m ([.ref (ad 6 0), .ref (ad 1 j), .int a, .int b] : List Value).toArray below meth c s.heap [] 0 0 (MQ below (va_Qv (q_X6_sewDozen σ j a b nB) (fun σ' => x_U D cs base ad (x_n nS nB nD nO) (x_s nS nB nC nO nS nD) σ') (x_A base)) ([.ref (ad 6 0), .ref (ad 1 j), .int a, .int b] : List Value).toArray s 0 0 (x_A base)) (F0 m 0 ls [])
  refine lv_iconst (v := 0) hx hb dX6_sewDozen_0 (by decide) ?_
  refine lv_istore (lv' := [(4, .int 0), (0, .ref (ad 6 0)), (1, .ref (ad 1 j)), (2, .int a), (3, .int b)]) hx hb dX6_sewDozen_1 hl (by decide) rfl (fun ls hl => ?_)
  refine lv_iconst (v := 0) hx hb dX6_sewDozen_3 (by decide) ?_
  refine lv_istore (lv' := [(5, .int 0), (4, .int 0), (0, .ref (ad 6 0)), (1, .ref (ad 1 j)), (2, .int a), (3, .int b)]) hx hb dX6_sewDozen_4 hl (by decide) rfl (fun ls hl => ?_)
  have cut_6 : ∀ (N : Nat) (k : Nat) (nn : Nat) (x4 : Int32) (x5 : Int32) (σc : x_St), (k ≤ nB) → (nn ≤ 12) → (x4 = nI nn) → (x5 = nI k) → (σc 6 0 3 = nI nB) → (f_sd j a b (nB - k) k nn σc = f_sd j a b nB 0 0 σ) → (nB - k < N) → ∀ (H : Heap) (locs : List Loc) (ls : Array Slot), lv_has ls 6 [(0, .ref (ad 6 0)), (1, .ref (ad 1 j)), (2, .int a), (3, .int b), (4, .int x4), (5, .int x5)] → x_B D cs base ad (x_n nS nB nD nO) (x_s nS nB nC nO nS nD) σc s H locs → W p l e (x_rm 5 0 0) s m ([.ref (ad 6 0), .ref (ad 1 j), .int a, .int b] : List Value).toArray below meth c H locs 0 0 (MQ below (va_Qv (q_X6_sewDozen σ j a b nB) (fun σ' => x_U D cs base ad (x_n nS nB nD nO) (x_s nS nB nC nO nS nD) σ') (x_A base)) ([.ref (ad 6 0), .ref (ad 1 j), .int a, .int b] : List Value).toArray s 0 0 (x_A base)) (F0 m 6 ls []) := by
    intro N
    induction N with
    | zero => intro k nn x4 x5 σc hk hnn h4 h5 hB1 hI hN; exact absurd hN (Nat.not_lt_zero _)
    | succ N ih_6 =>
      intro k nn x4 x5 σc hk hnn h4 h5 hB1 hI hN H locs ls hl hw
      refine lv_iload hx hb dX6_sewDozen_6 (lv_at hl 5 rfl) ?_
      refine lv_aload_n hx hb dX6_sewDozen_8 rfl (lv_at hl 0 rfl) ?_
      refine xg_i hc hw 6 0 3 rfl rfl rfl rfl (by decide) (Nat.zero_lt_one) mw_82 dX6_sewDozen_9 ?_
      refine lv_icmp_ge (tgt := 90) hx hb dX6_sewDozen_12 (by decide) (fun c_12 => ?_) (fun c_12 => ?_)
      · exact xr_v hc hlocks hr hw (by first | (have hz := x_ge h5 hB1 (by omega) (by omega) c_12; rw [show nB - k = 0 by omega, f_sd] at hI; exact hI) | (have hz := x_ge h4 (b := 12) rfl (by omega) (by decide) c_19; rw [show nn = 12 by omega, f_sd_12] at hI; exact hI)) (Nat.le_of_ble_eq_true rfl) (Nat.le_of_ble_eq_true rfl) dX6_sewDozen_90
      · refine lv_iload hx hb dX6_sewDozen_15 (lv_at hl 4 rfl) ?_
        refine lv_bipush (v := 12) hx hb dX6_sewDozen_17 (by decide) ?_
        refine lv_icmp_ge (tgt := 90) hx hb dX6_sewDozen_19 (by decide) (fun c_19 => ?_) (fun c_19 => ?_)
        · exact xr_v hc hlocks hr hw (by first | (have hz := x_ge h5 hB1 (by omega) (by omega) c_12; rw [show nB - k = 0 by omega, f_sd] at hI; exact hI) | (have hz := x_ge h4 (b := 12) rfl (by omega) (by decide) c_19; rw [show nn = 12 by omega, f_sd_12] at hI; exact hI)) (Nat.le_of_ble_eq_true rfl) (Nat.le_of_ble_eq_true rfl) dX6_sewDozen_90
        · have hlt : k < nB := x_nge h5 hB1 (by omega) (by omega) c_12
          have hn12 : nn < 12 := x_nge h4 (b := 12) rfl (by omega) (by decide) c_19
          have hst : nB - k = (nB - (k + 1)) + 1 := by omega
          rw [hst, f_sd, if_neg (by omega)] at hI
          have cut_84 : ∀ (n2 : Nat) (y4 : Int32) (σd : x_St), (n2 ≤ 12) → (y4 = nI n2) → (σd 6 0 3 = nI nB) → (f_sd j a b (nB - (k + 1)) (k + 1) n2 σd = f_sd j a b nB 0 0 σ) → ∀ (H : Heap) (locs : List Loc) (ls : Array Slot), lv_has ls 6 [(0, .ref (ad 6 0)), (1, .ref (ad 1 j)), (2, .int a), (3, .int b), (4, .int y4), (5, .int x5)] → x_B D cs base ad (x_n nS nB nD nO) (x_s nS nB nC nO nS nD) σd s H locs → W p l e (x_rm 5 0 0) s m ([.ref (ad 6 0), .ref (ad 1 j), .int a, .int b] : List Value).toArray below meth c H locs 0 0 (MQ below (va_Qv (q_X6_sewDozen σ j a b nB) (fun σ' => x_U D cs base ad (x_n nS nB nD nO) (x_s nS nB nC nO nS nD) σ') (x_A base)) ([.ref (ad 6 0), .ref (ad 1 j), .int a, .int b] : List Value).toArray s 0 0 (x_A base)) (F0 m 84 ls []) := by
            intro n2 y4 σd hn2 h4d hBd hId H locs ls hl hw
            obtain ⟨x5_84, ex5_84⟩ : ∃ y : Int32, y = x5 + 1 := ⟨_, rfl⟩
            refine lv_iinc (v := x5_84) (lv' := [(5, .int x5_84), (0, .ref (ad 6 0)), (1, .ref (ad 1 j)), (2, .int a), (3, .int b), (4, .int y4)]) hx hb dX6_sewDozen_84 hl (k := 5) rfl (by rw [ex5_84]; rfl) (by decide) rfl (fun ls hl => ?_)
            refine lv_goto (tgt := 6) hx hb dX6_sewDozen_87 (by decide) ?_
            exact ih_6 (k + 1) n2 _ _ _ (by omega) (hn2) (h4d) (by rw [ex5_84, h5, nI_1]) (hBd) (hId) (by omega) _ _ _ (lv_sub hl [1, 2, 3, 4, 5, 0] rfl) hw
          refine lv_aload_n hx hb dX6_sewDozen_22 rfl (lv_at hl 0 rfl) ?_
          refine xg_r hc hw 6 0 2 rfl rfl rfl rfl (by decide) (Nat.zero_lt_one) (Nat.zero_lt_one) mw_81 dX6_sewDozen_23 ?_
          refine lv_iload hx hb dX6_sewDozen_26 (lv_at hl 5 rfl) ?_
          refine xa_rld hc hw 21 0 k rfl (Nat.zero_lt_one) (h5) (by show _ < 400; omega) (hlt) dX6_sewDozen_28 ?_
          refine lv_aload_n hx hb dX6_sewDozen_29 rfl (lv_at hl 1 rfl) ?_
          refine lv_iload_n hx hb dX6_sewDozen_30 rfl (lv_at hl 2 rfl) ?_
          refine lv_iload_n hx hb dX6_sewDozen_31 rfl (lv_at hl 3 rfl) ?_
          refine xc_Vi hc hw 0 k (c_X0_fits k j a b (hlt) (hj)) rfl rfl (hlt) mw_606 mw_603 mw_13 mw_604 mw_605 xd_X0_fits ⟨by decide, by decide⟩ (rfl) hl.1 (Nat.le_of_ble_eq_true rfl) dX6_sewDozen_32 ⟨Nat.le_of_ble_eq_true rfl, Nat.le_of_ble_eq_true rfl⟩ (fun r_32 σ_32 H locs hq hw => ?_)
          obtain ⟨hσ_32, hr_32⟩ := hq
          rw [hσ_32] at hw
          refine lv_if_eq (tgt := 84) hx hb dX6_sewDozen_35 (by decide) (fun c_35 => ?_) (fun c_35 => ?_)
          · exact cut_84 nn _ _ (hnn) (h4) (hB1) (by rw [if_neg (x_if0 hr_32 c_35)] at hI; exact hI) _ _ _ (lv_sub hl [0, 1, 2, 3, 4, 5] rfl) hw
          · have hF := x_if1 hr_32 c_35
            rw [if_pos hF] at hI
            refine lv_aload_n hx hb dX6_sewDozen_38 rfl (lv_at hl 1 rfl) ?_
            refine lv_iload hx hb dX6_sewDozen_39 (lv_at hl 4 rfl) ?_
            refine lv_iload hx hb dX6_sewDozen_41 (lv_at hl 5 rfl) ?_
            refine lv_aload_n hx hb dX6_sewDozen_43 rfl (lv_at hl 0 rfl) ?_
            refine xg_r hc hw 6 0 2 rfl rfl rfl rfl (by decide) (Nat.zero_lt_one) (Nat.zero_lt_one) mw_81 dX6_sewDozen_44 ?_
            refine lv_iload hx hb dX6_sewDozen_47 (lv_at hl 5 rfl) ?_
            refine xa_rld hc hw 21 0 k rfl (Nat.zero_lt_one) (h5) (by show _ < 400; omega) (hlt) dX6_sewDozen_49 ?_
            refine xg_i hc hw 0 k 1 rfl rfl rfl rfl (by decide) (hlt) mw_426 dX6_sewDozen_50 ?_
            refine xc_Vv hc hw 1 j (c_X1_sew j nn x5 (σc 0 k 1) hn12 hj hj hj) rfl rfl (hj) mw_615 mw_612 mw_14 mw_613 mw_614 xd_X1_sew ⟨by decide, by decide⟩ (by rw [h4]; rfl) hl.1 (Nat.le_of_ble_eq_true rfl) dX6_sewDozen_53 ⟨Nat.le_of_ble_eq_true rfl, Nat.le_of_ble_eq_true rfl⟩ (fun σ_53 H locs hq hw => ?_)
            have hq_53 := hq
            have hσ_53 : σ_53 = f_sew σc j nn x5 (σc 0 k 1) := hq_53
            refine lv_aload_n hx hb dX6_sewDozen_56 rfl (lv_at hl 0 rfl) ?_
            refine xg_r hc hw 6 0 2 rfl rfl rfl rfl (by decide) (Nat.zero_lt_one) (Nat.zero_lt_one) mw_81 dX6_sewDozen_57 ?_
            refine lv_iload hx hb dX6_sewDozen_60 (lv_at hl 5 rfl) ?_
            refine xa_rld hc hw 21 0 k rfl (Nat.zero_lt_one) (h5) (by show _ < 400; omega) (hlt) dX6_sewDozen_62 ?_
            refine lv_iconst (v := 4) hx hb dX6_sewDozen_63 (by decide) ?_
            refine xp_i hc hw 0 k 5 rfl rfl rfl rfl (by decide) (hlt) rfl (ty := .int) (by decide +kernel) rfl rfl mw_434 dX6_sewDozen_64 (fun H locs hw => ?_)
            refine lv_aload_n hx hb dX6_sewDozen_67 rfl (lv_at hl 0 rfl) ?_
            refine xg_r hc hw 6 0 2 rfl rfl rfl rfl (by decide) (Nat.zero_lt_one) (Nat.zero_lt_one) mw_81 dX6_sewDozen_68 ?_
            refine lv_iload hx hb dX6_sewDozen_71 (lv_at hl 5 rfl) ?_
            refine xa_rld hc hw 21 0 k rfl (Nat.zero_lt_one) (h5) (by show _ < 400; omega) (hlt) dX6_sewDozen_73 ?_
            refine lv_aload_n hx hb dX6_sewDozen_74 rfl (lv_at hl 0 rfl) ?_
            refine xg_i hc hw 6 0 6 rfl rfl rfl rfl (by decide) (Nat.zero_lt_one) mw_85 dX6_sewDozen_75 ?_
            refine xp_i hc hw 0 k 8 rfl rfl rfl rfl (by decide) (hlt) rfl (ty := .int) (by decide +kernel) rfl rfl mw_440 dX6_sewDozen_78 (fun H locs hw => ?_)
            obtain ⟨x4_81, ex4_81⟩ : ∃ y : Int32, y = x4 + 1 := ⟨_, rfl⟩
            refine lv_iinc (v := x4_81) (lv' := [(4, .int x4_81), (0, .ref (ad 6 0)), (1, .ref (ad 1 j)), (2, .int a), (3, .int b), (5, .int x5)]) hx hb dX6_sewDozen_81 hl (k := 4) rfl (by rw [ex4_81]; rfl) (by decide) rfl (fun ls hl => ?_)
            exact cut_84 (nn + 1) _ _ (by omega) (by rw [ex4_81, h4, nI_1]) (by rw [hσ_53]; simpa [x_up, f_sew] using hB1) (by rw [hσ_53, h5]; rw [show (x_up (f_sew σc j nn (nI k) (σc 0 k 1)) 0 k 5 4) 6 0 6 = σc 6 0 6 by simp [x_up, f_sew]]; exact hI) _ _ _ (lv_sub hl [1, 2, 3, 4, 0, 5] rfl) hw
  exact cut_6 _ 0 0 _ _ _ (Nat.zero_le _) (by decide) (rfl) (rfl) (hB) (rfl) (Nat.lt_succ_self _) _ _ _ (lv_sub hl [2, 3, 4, 5, 1, 0] rfl) hw
/-- X6_fittingCards -/
def q_X6_fittingCards (σ : x_St) (i nC : Nat) : Int32 → x_St → Prop := fun r σ' => σ' = σ ∧ r = nI (f_nr σ i nC 0)
set_option maxHeartbeats 4000000 in
set_option maxRecDepth 100000 in
theorem c_X6_fittingCards {l : Launch} {D : va_G} {cs : Nat → ClassId} {base : Nat} {ad : Nat → Nat → Nat} {nS nB nC nO : Nat} {σ : x_St} (i : Nat) (hi : i < nO) (hC : σ 6 0 6 = nI nC) (hC0 : nC ≤ 30) : x_Ci l yX6_fittingCards cX6_fittingCards 4 (some .int) 5 0 0 D cs base ad (x_n nS nB nC nO) (x_s nS nB nC nO nS nC) σ [.ref (ad 6 0), .ref (ad 4 i)] (q_X6_fittingCards σ i nC) (fun σ' => x_U D cs base ad (x_n nS nB nC nO) (x_s nS nB nC nO nS nC) σ') := by
  refine Met.ofW (cc := cX6_fittingCards) (maxL := 4) (ret := some .int) (by decide) rfl ?_
  intro p e s m args below meth c s₁ B hml hv
  obtain ⟨rfl, hU⟩ := hv
  have hx := B.exec
  have hb := B.bytes
  have hr := B.returns
  have hts := atoms_spec (ws := Cond.code yX6_fittingCards cX6_fittingCards 4 (some .int) :: Tw) B.pre
  have hown : s.vm.findClass RX6 = some m.cls := findClass_of_methodNamed B.named
  have hlocks := B.notSynchronized
  have hc : CallFix p m c cX6_fittingCards 4 s (([.ref (ad 6 0), .ref (ad 4 i)] : List Value).toArray) Tw RX6 := ⟨hx, hb, hml, hown, fun w hw => hts w (List.mem_cons_of_mem _ hw)⟩
  have hw := x_B.start hU
  have hl := lv_entry ([.ref (ad 6 0), .ref (ad 4 i)]) (n := 4) (Nat.le_of_ble_eq_true rfl)
  rw [lg_entry_eq]
  generalize (lg_sl ([.ref (ad 6 0), .ref (ad 4 i)]) ++ List.replicate (4 - (lg_sl ([.ref (ad 6 0), .ref (ad 4 i)])).length) Slot.unset).toArray = ls at hl ⊢
  have hl : lv_has ls 4 [(0, .ref (ad 6 0)), (1, .ref (ad 4 i))] := hl
  show W p l e (x_rm 5 0 0) s m ([.ref (ad 6 0), .ref (ad 4 i)] : List Value).toArray below meth c s.heap [] 0 0 (MQ below (va_Qi (q_X6_fittingCards σ i nC) (fun σ' => x_U D cs base ad (x_n nS nB nC nO) (x_s nS nB nC nO nS nC) σ') (x_A base)) ([.ref (ad 6 0), .ref (ad 4 i)] : List Value).toArray s 0 0 (x_A base)) (F0 m 0 ls [])
  refine lv_iconst (v := 0) hx hb dX6_fittingCards_0 (by decide) ?_
  refine lv_istore_n (lv' := [(2, .int 0), (0, .ref (ad 6 0)), (1, .ref (ad 4 i))]) hx hb dX6_fittingCards_1 rfl hl (by decide) rfl (fun ls hl => ?_)
  refine lv_iconst (v := 0) hx hb dX6_fittingCards_2 (by decide) ?_
  refine lv_istore_n (lv' := [(3, .int 0), (2, .int 0), (0, .ref (ad 6 0)), (1, .ref (ad 4 i))]) hx hb dX6_fittingCards_3 rfl hl (by decide) rfl (fun ls hl => ?_)
  have cut_4 : ∀ (N : Nat) (k : Nat) (cn : Nat) (x2 : Int32) (x3 : Int32), (k ≤ nC) → (x2 = nI cn) → (x3 = nI k) → (cn + f_nr σ i (nC - k) k = f_nr σ i nC 0) → (nC - k < N) → ∀ (H : Heap) (locs : List Loc) (ls : Array Slot), lv_has ls 4 [(0, .ref (ad 6 0)), (1, .ref (ad 4 i)), (2, .int x2), (3, .int x3)] → x_B D cs base ad (x_n nS nB nC nO) (x_s nS nB nC nO nS nC) σ s H locs → W p l e (x_rm 5 0 0) s m ([.ref (ad 6 0), .ref (ad 4 i)] : List Value).toArray below meth c H locs 0 0 (MQ below (va_Qi (q_X6_fittingCards σ i nC) (fun σ' => x_U D cs base ad (x_n nS nB nC nO) (x_s nS nB nC nO nS nC) σ') (x_A base)) ([.ref (ad 6 0), .ref (ad 4 i)] : List Value).toArray s 0 0 (x_A base)) (F0 m 4 ls []) := by
    intro N
    induction N with
    | zero => intro k cn x2 x3 hk h2 h3 hI hN; exact absurd hN (Nat.not_lt_zero _)
    | succ N ih_4 =>
      intro k cn x2 x3 hk h2 h3 hI hN H locs ls hl hw
      refine lv_iload_n hx hb dX6_fittingCards_4 rfl (lv_at hl 3 rfl) ?_
      refine lv_aload_n hx hb dX6_fittingCards_5 rfl (lv_at hl 0 rfl) ?_
      refine xg_i hc hw 6 0 6 rfl rfl rfl rfl (by decide) (Nat.zero_lt_one) mw_85 dX6_fittingCards_6 ?_
      refine lv_icmp_ge (tgt := 34) hx hb dX6_fittingCards_9 (by decide) (fun c_9 => ?_) (fun c_9 => ?_)
      · refine lv_iload_n hx hb dX6_fittingCards_34 rfl (lv_at hl 2 rfl) ?_
        exact xr_i hc hlocks hr rfl hw (⟨rfl, by have hz := x_ge h3 hC (by omega) (by omega) c_9; rw [show nC - k = 0 by omega, f_nr] at hI; rw [h2, ← hI]; rfl⟩) (Nat.le_of_ble_eq_true rfl) (Nat.le_of_ble_eq_true rfl) dX6_fittingCards_35
      · have hlt : k < nC := x_nge h3 hC (by omega) (by omega) c_9
        have hst : nC - k = (nC - (k + 1)) + 1 := by omega
        rw [hst, f_nr] at hI
        refine lv_aload_n hx hb dX6_fittingCards_12 rfl (lv_at hl 1 rfl) ?_
        refine lv_aload_n hx hb dX6_fittingCards_13 rfl (lv_at hl 0 rfl) ?_
        refine xg_r hc hw 6 0 5 rfl rfl rfl rfl (by decide) (Nat.zero_lt_one) (Nat.zero_lt_one) mw_84 dX6_fittingCards_14 ?_
        refine lv_iload_n hx hb dX6_fittingCards_17 rfl (lv_at hl 3 rfl) ?_
        refine xa_rld hc hw 23 0 k rfl (Nat.zero_lt_one) (h3) (by show _ < 30; omega) (hlt) dX6_fittingCards_18 ?_
        refine xc_Vi hc hw 4 i (c_X4_takes i k (hi) (hlt)) rfl rfl (hi) mw_654 mw_651 mw_15 mw_652 mw_653 xd_X4_takes ⟨by decide, by decide⟩ (rfl) hl.1 (Nat.le_of_ble_eq_true rfl) dX6_fittingCards_19 ⟨Nat.le_of_ble_eq_true rfl, Nat.le_of_ble_eq_true rfl⟩ (fun r_19 σ_19 H locs hq hw => ?_)
        obtain ⟨hσ_19, hr_19⟩ := hq
        rw [hσ_19] at hw
        refine lv_if_eq (tgt := 28) hx hb dX6_fittingCards_22 (by decide) (fun c_22 => ?_) (fun c_22 => ?_)
        · obtain ⟨x3_28, ex3_28⟩ : ∃ y : Int32, y = x3 + 1 := ⟨_, rfl⟩
          refine lv_iinc (v := x3_28) (lv' := [(3, .int x3_28), (0, .ref (ad 6 0)), (1, .ref (ad 4 i)), (2, .int x2)]) hx hb dX6_fittingCards_28 hl (k := 3) rfl (by rw [ex3_28]; rfl) (by decide) rfl (fun ls hl => ?_)
          refine lv_goto (tgt := 4) hx hb dX6_fittingCards_31 (by decide) ?_
          exact ih_4 (k + 1) (cn + if f_tak σ i k then 1 else 0) _ _ (by omega) (by first | (rw [ex2_25, h2, nI_1, if_pos (x_if1 hr_19 c_22)]) | (rw [h2, if_neg (x_if0 hr_19 c_22), Nat.add_zero])) (by rw [ex3_28, h3, nI_1]) (by rw [← hI]; omega) (by omega) _ _ _ (lv_sub hl [1, 2, 3, 0] rfl) hw
        · obtain ⟨x2_25, ex2_25⟩ : ∃ y : Int32, y = x2 + 1 := ⟨_, rfl⟩
          refine lv_iinc (v := x2_25) (lv' := [(2, .int x2_25), (0, .ref (ad 6 0)), (1, .ref (ad 4 i)), (3, .int x3)]) hx hb dX6_fittingCards_25 hl (k := 2) rfl (by rw [ex2_25]; rfl) (by decide) rfl (fun ls hl => ?_)
          obtain ⟨x3_28, ex3_28⟩ : ∃ y : Int32, y = x3 + 1 := ⟨_, rfl⟩
          refine lv_iinc (v := x3_28) (lv' := [(3, .int x3_28), (2, .int x2_25), (0, .ref (ad 6 0)), (1, .ref (ad 4 i))]) hx hb dX6_fittingCards_28 hl (k := 3) rfl (by rw [ex3_28]; rfl) (by decide) rfl (fun ls hl => ?_)
          refine lv_goto (tgt := 4) hx hb dX6_fittingCards_31 (by decide) ?_
          exact ih_4 (k + 1) (cn + if f_tak σ i k then 1 else 0) _ _ (by omega) (by first | (rw [ex2_25, h2, nI_1, if_pos (x_if1 hr_19 c_22)]) | (rw [h2, if_neg (x_if0 hr_19 c_22), Nat.add_zero])) (by rw [ex3_28, h3, nI_1]) (by rw [← hI]; omega) (by omega) _ _ _ (lv_sub hl [2, 3, 1, 0] rfl) hw
  exact cut_4 _ 0 0 _ _ (Nat.zero_le _) (rfl) (rfl) (by rw [Nat.zero_add]; rfl) (Nat.lt_succ_self _) _ _ _ (lv_sub hl [2, 3, 1, 0] rfl) hw
/-- X6_giveCards -/
def q_X6_giveCards (σ : x_St) (i w : Nat) (v : Int32) (nC : Nat) : x_St → Prop := fun σ' => σ' = f_gv i v nC 0 w σ
set_option maxHeartbeats 4000000 in
set_option maxRecDepth 100000 in
theorem c_X6_giveCards {l : Launch} {D : va_G} {cs : Nat → ClassId} {base : Nat} {ad : Nat → Nat → Nat} {nS nB nC nO : Nat} {σ : x_St} (i w : Nat) (v : Int32) (hi : i < nO) (hw9 : σ 4 i 0 = nI w) (hw0 : w ≤ 9) (hC : σ 6 0 6 = nI nC) (hC0 : nC ≤ 30) : x_Cv l yX6_giveCards cX6_giveCards 5 5 0 0 D cs base ad (x_n nS nB nC nO) (x_s nS nB nC nO nS nC) σ [.ref (ad 6 0), .ref (ad 4 i), .int v] (q_X6_giveCards σ i w v nC) (fun σ' => x_U D cs base ad (x_n nS nB nC nO) (x_s nS nB nC nO nS nC) σ') := by
  refine Met.ofW (cc := cX6_giveCards) (maxL := 5) (ret := none) (by decide) rfl ?_
  intro p e s m args below meth c s₁ B hml hv
  obtain ⟨rfl, hU⟩ := hv
  have hx := B.exec
  have hb := B.bytes
  have hr := B.returns
  have hts := atoms_spec (ws := Cond.code yX6_giveCards cX6_giveCards 5 (none) :: Tw) B.pre
  have hown : s.vm.findClass RX6 = some m.cls := findClass_of_methodNamed B.named
  have hlocks := B.notSynchronized
  have hc : CallFix p m c cX6_giveCards 5 s (([.ref (ad 6 0), .ref (ad 4 i), .int v] : List Value).toArray) Tw RX6 := ⟨hx, hb, hml, hown, fun w hw => hts w (List.mem_cons_of_mem _ hw)⟩
  have hw := x_B.start hU
  have hl := lv_entry ([.ref (ad 6 0), .ref (ad 4 i), .int v]) (n := 5) (Nat.le_of_ble_eq_true rfl)
  rw [lg_entry_eq]
  generalize (lg_sl ([.ref (ad 6 0), .ref (ad 4 i), .int v]) ++ List.replicate (5 - (lg_sl ([.ref (ad 6 0), .ref (ad 4 i), .int v])).length) Slot.unset).toArray = ls at hl ⊢
  have hl : lv_has ls 5 [(0, .ref (ad 6 0)), (1, .ref (ad 4 i)), (2, .int v)] := hl
  show W p l e (x_rm 5 0 0) s m ([.ref (ad 6 0), .ref (ad 4 i), .int v] : List Value).toArray below meth c s.heap [] 0 0 (MQ below (va_Qv (q_X6_giveCards σ i w v nC) (fun σ' => x_U D cs base ad (x_n nS nB nC nO) (x_s nS nB nC nO nS nC) σ') (x_A base)) ([.ref (ad 6 0), .ref (ad 4 i), .int v] : List Value).toArray s 0 0 (x_A base)) (F0 m 0 ls [])
  refine lv_iconst (v := 0) hx hb dX6_giveCards_0 (by decide) ?_
  refine lv_istore_n (lv' := [(3, .int 0), (0, .ref (ad 6 0)), (1, .ref (ad 4 i)), (2, .int v)]) hx hb dX6_giveCards_1 rfl hl (by decide) rfl (fun ls hl => ?_)
  refine lv_iconst (v := 0) hx hb dX6_giveCards_2 (by decide) ?_
  refine lv_istore (lv' := [(4, .int 0), (3, .int 0), (0, .ref (ad 6 0)), (1, .ref (ad 4 i)), (2, .int v)]) hx hb dX6_giveCards_3 hl (by decide) rfl (fun ls hl => ?_)
  have cut_5 : ∀ (N : Nat) (k : Nat) (nn : Nat) (x3 : Int32) (x4 : Int32) (σc : x_St), (k ≤ nC) → (nn ≤ w) → (x3 = nI nn) → (x4 = nI k) → (σc 6 0 6 = nI nC) → (σc 4 i 0 = nI w) → (f_gv i v (nC - k) k (w - nn) σc = f_gv i v nC 0 w σ) → (nC - k < N) → ∀ (H : Heap) (locs : List Loc) (ls : Array Slot), lv_has ls 5 [(0, .ref (ad 6 0)), (1, .ref (ad 4 i)), (2, .int v), (3, .int x3), (4, .int x4)] → x_B D cs base ad (x_n nS nB nC nO) (x_s nS nB nC nO nS nC) σc s H locs → W p l e (x_rm 5 0 0) s m ([.ref (ad 6 0), .ref (ad 4 i), .int v] : List Value).toArray below meth c H locs 0 0 (MQ below (va_Qv (q_X6_giveCards σ i w v nC) (fun σ' => x_U D cs base ad (x_n nS nB nC nO) (x_s nS nB nC nO nS nC) σ') (x_A base)) ([.ref (ad 6 0), .ref (ad 4 i), .int v] : List Value).toArray s 0 0 (x_A base)) (F0 m 5 ls []) := by
    intro N
    induction N with
    | zero => intro k nn x3 x4 σc hk hnn h3 h4 hC1 hw1 hI hN; exact absurd hN (Nat.not_lt_zero _)
    | succ N ih_5 =>
      intro k nn x3 x4 σc hk hnn h3 h4 hC1 hw1 hI hN H locs ls hl hw
      refine lv_iload hx hb dX6_giveCards_5 (lv_at hl 4 rfl) ?_
      refine lv_aload_n hx hb dX6_giveCards_7 rfl (lv_at hl 0 rfl) ?_
      refine xg_i hc hw 6 0 6 rfl rfl rfl rfl (by decide) (Nat.zero_lt_one) mw_85 dX6_giveCards_8 ?_
      refine lv_icmp_ge (tgt := 56) hx hb dX6_giveCards_11 (by decide) (fun c_11 => ?_) (fun c_11 => ?_)
      · exact xr_v hc hlocks hr hw (by first | (have hz := x_ge h4 hC1 (by omega) (by omega) c_11; rw [show nC - k = 0 by omega, f_gv] at hI; exact hI) | (have hz := x_ge h3 hw1 (by omega) (by omega) c_19; rw [show w - nn = 0 by omega, f_gv_0] at hI; exact hI)) (Nat.le_of_ble_eq_true rfl) (Nat.le_of_ble_eq_true rfl) dX6_giveCards_56
      · refine lv_iload_n hx hb dX6_giveCards_14 rfl (lv_at hl 3 rfl) ?_
        refine lv_aload_n hx hb dX6_giveCards_15 rfl (lv_at hl 1 rfl) ?_
        refine xg_i hc hw 4 i 0 rfl rfl rfl rfl (by decide) (hi) mw_200 dX6_giveCards_16 ?_
        refine lv_icmp_ge (tgt := 56) hx hb dX6_giveCards_19 (by decide) (fun c_19 => ?_) (fun c_19 => ?_)
        · exact xr_v hc hlocks hr hw (by first | (have hz := x_ge h4 hC1 (by omega) (by omega) c_11; rw [show nC - k = 0 by omega, f_gv] at hI; exact hI) | (have hz := x_ge h3 hw1 (by omega) (by omega) c_19; rw [show w - nn = 0 by omega, f_gv_0] at hI; exact hI)) (Nat.le_of_ble_eq_true rfl) (Nat.le_of_ble_eq_true rfl) dX6_giveCards_56
        · have hlt : k < nC := x_nge h4 hC1 (by omega) (by omega) c_11
          have hnw : nn < w := x_nge h3 hw1 (by omega) (by omega) c_19
          have hst : nC - k = (nC - (k + 1)) + 1 := by omega
          rw [hst, f_gv, if_neg (by omega)] at hI
          have cut_50 : ∀ (n2 : Nat) (y3 : Int32) (σd : x_St), (n2 ≤ w) → (y3 = nI n2) → (σd 6 0 6 = nI nC) → (σd 4 i 0 = nI w) → (f_gv i v (nC - (k + 1)) (k + 1) (w - n2) σd = f_gv i v nC 0 w σ) → ∀ (H : Heap) (locs : List Loc) (ls : Array Slot), lv_has ls 5 [(0, .ref (ad 6 0)), (1, .ref (ad 4 i)), (2, .int v), (3, .int y3), (4, .int x4)] → x_B D cs base ad (x_n nS nB nC nO) (x_s nS nB nC nO nS nC) σd s H locs → W p l e (x_rm 5 0 0) s m ([.ref (ad 6 0), .ref (ad 4 i), .int v] : List Value).toArray below meth c H locs 0 0 (MQ below (va_Qv (q_X6_giveCards σ i w v nC) (fun σ' => x_U D cs base ad (x_n nS nB nC nO) (x_s nS nB nC nO nS nC) σ') (x_A base)) ([.ref (ad 6 0), .ref (ad 4 i), .int v] : List Value).toArray s 0 0 (x_A base)) (F0 m 50 ls []) := by
            intro n2 y3 σd hn2 h3d hCd hwd hId H locs ls hl hw
            obtain ⟨x4_50, ex4_50⟩ : ∃ y : Int32, y = x4 + 1 := ⟨_, rfl⟩
            refine lv_iinc (v := x4_50) (lv' := [(4, .int x4_50), (0, .ref (ad 6 0)), (1, .ref (ad 4 i)), (2, .int v), (3, .int y3)]) hx hb dX6_giveCards_50 hl (k := 4) rfl (by rw [ex4_50]; rfl) (by decide) rfl (fun ls hl => ?_)
            refine lv_goto (tgt := 5) hx hb dX6_giveCards_53 (by decide) ?_
            exact ih_5 (k + 1) n2 _ _ _ (by omega) (hn2) (h3d) (by rw [ex4_50, h4, nI_1]) (hCd) (hwd) (hId) (by omega) _ _ _ (lv_sub hl [1, 2, 3, 4, 0] rfl) hw
          refine lv_aload_n hx hb dX6_giveCards_22 rfl (lv_at hl 1 rfl) ?_
          refine lv_aload_n hx hb dX6_giveCards_23 rfl (lv_at hl 0 rfl) ?_
          refine xg_r hc hw 6 0 5 rfl rfl rfl rfl (by decide) (Nat.zero_lt_one) (Nat.zero_lt_one) mw_84 dX6_giveCards_24 ?_
          refine lv_iload hx hb dX6_giveCards_27 (lv_at hl 4 rfl) ?_
          refine xa_rld hc hw 23 0 k rfl (Nat.zero_lt_one) (h4) (by show _ < 30; omega) (hlt) dX6_giveCards_29 ?_
          refine xc_Vi hc hw 4 i (c_X4_takes i k (hi) (hlt)) rfl rfl (hi) mw_654 mw_651 mw_15 mw_652 mw_653 xd_X4_takes ⟨by decide, by decide⟩ (rfl) hl.1 (Nat.le_of_ble_eq_true rfl) dX6_giveCards_30 ⟨Nat.le_of_ble_eq_true rfl, Nat.le_of_ble_eq_true rfl⟩ (fun r_30 σ_30 H locs hq hw => ?_)
          obtain ⟨hσ_30, hr_30⟩ := hq
          rw [hσ_30] at hw
          refine lv_if_eq (tgt := 50) hx hb dX6_giveCards_33 (by decide) (fun c_33 => ?_) (fun c_33 => ?_)
          · exact cut_50 nn _ _ (hnn) (h3) (hC1) (hw1) (by rw [if_neg (x_if0 hr_30 c_33)] at hI; exact hI) _ _ _ (lv_sub hl [0, 1, 2, 3, 4] rfl) hw
          · have hF := x_if1 hr_30 c_33
            rw [if_pos hF] at hI
            refine lv_aload_n hx hb dX6_giveCards_36 rfl (lv_at hl 0 rfl) ?_
            refine xg_r hc hw 6 0 5 rfl rfl rfl rfl (by decide) (Nat.zero_lt_one) (Nat.zero_lt_one) mw_84 dX6_giveCards_37 ?_
            refine lv_iload hx hb dX6_giveCards_40 (lv_at hl 4 rfl) ?_
            refine xa_rld hc hw 23 0 k rfl (Nat.zero_lt_one) (h4) (by show _ < 30; omega) (hlt) dX6_giveCards_42 ?_
            refine lv_iload_n hx hb dX6_giveCards_43 rfl (lv_at hl 2 rfl) ?_
            refine xp_i hc hw 1 k 6 rfl rfl rfl rfl (by decide) (hlt) rfl (ty := .int) (by decide +kernel) rfl rfl mw_579 dX6_giveCards_44 (fun H locs hw => ?_)
            obtain ⟨x3_47, ex3_47⟩ : ∃ y : Int32, y = x3 + 1 := ⟨_, rfl⟩
            refine lv_iinc (v := x3_47) (lv' := [(3, .int x3_47), (0, .ref (ad 6 0)), (1, .ref (ad 4 i)), (2, .int v), (4, .int x4)]) hx hb dX6_giveCards_47 hl (k := 3) rfl (by rw [ex3_47]; rfl) (by decide) rfl (fun ls hl => ?_)
            exact cut_50 (nn + 1) _ _ (by omega) (by rw [ex3_47, h3, nI_1]) (by simpa [x_up] using hC1) (by simpa [x_up] using hw1) (by rw [show w - (nn + 1) = w - nn - 1 by omega]; exact hI) _ _ _ (lv_sub hl [1, 2, 3, 0, 4] rfl) hw
  exact cut_5 _ 0 0 _ _ _ (Nat.zero_le _) (Nat.zero_le _) (rfl) (rfl) (hC) (hw9) (rfl) (Nat.lt_succ_self _) _ _ _ (lv_sub hl [2, 3, 4, 1, 0] rfl) hw
