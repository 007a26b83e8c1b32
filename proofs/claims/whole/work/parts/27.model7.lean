def m_keep (σ σc : x_St) : Prop := ∀ k i j : Nat, ¬ k = 58 → σc k i j = σ k i j
def m_keep2 (σ σc : x_St) : Prop := ∀ k i j : Nat, ¬ k = 58 → ¬ k = 67 → σc k i j = σ k i j
theorem m_gv_0 (o f c : Nat) (σ : x_St) : m_gv o f c 0 σ = σ := by
  cases f with
  | zero => rfl
  | succ f => rw [m_gv, if_pos rfl]
theorem m_nr_up (σ : x_St) (o : Nat) (v : Int32) (c : Nat) : ∀ {f c' : Nat}, c < c' → m_nr (x_up σ 58 0 c v) o f c' = m_nr σ o f c'
  | 0, _, _ => rfl
  | f + 1, c', h => by
    have h1 : ¬ c' = c := by omega
    rw [m_nr, m_nr, m_nr_up σ o v c (Nat.lt_succ_of_lt h)]
    simp [m_for, x_up, h1]
theorem m_gv_k (o : Nat) : ∀ (f c r : Nat) (σ : x_St) (k i j : Nat), ¬ k = 58 → m_gv o f c r σ k i j = σ k i j
  | 0, _, _, _, _, _, _, _ => rfl
  | f + 1, c, r, σ, k, i, j, h => by
    rw [m_gv]
    split
    · rfl
    · split
      · rw [m_gv_k o f (c + 1) (r - 1) _ k i j h, x_up_n (fun q => h q.1)]
      · rw [m_gv_k o f (c + 1) r σ k i j h]
theorem m_snd_k (σ : x_St) (o w nC : Nat) (day : Int32) (k i j : Nat) (h1 : ¬ k = 58) (h2 : ¬ k = 67) : (m_snd σ o w nC day).2 k i j = σ k i j := by
  rw [m_snd]
  split
  · rfl
  · show x_up _ 67 0 o day k i j = _
    rw [x_up_n (fun q => h2 q.1), m_gv_k _ _ _ _ _ _ _ _ h1]
theorem x_ngt {x y : Int32} {a b : Nat} (hx : x = nI a) (hy : y = nI b) (ha : a < 2 ^ 31) (hb : b < 2 ^ 31) (h : ¬ y < x) : a ≤ b := by
  rw [hx, hy] at h; exact Nat.le_of_not_lt (fun q => h ((nI_ltI hb ha).mpr q))
def m_si (day : Int32) (d nC : Nat) : Nat → Nat → x_St → Int32 → Int32 × x_St
  | 0, _, σ, s => (s, σ)
  | f + 1, o, σ, s => if σ 65 0 o = nI d ∧ σ 67 0 o = -1 then m_si day d nC f (o + 1) (m_snd σ o (x_c (σ 60 0 o)) nC day).2 (s + (m_snd σ o (x_c (σ 60 0 o)) nC day).1) else m_si day d nC f (o + 1) σ s
def m_so (day : Int32) (nC nO : Nat) : Nat → Nat → x_St → Int32 → Int32 × x_St
  | 0, _, σ, s => (s, σ)
  | f + 1, d, σ, s => m_so day nC nO f (d + 1) (m_si day d nC nO 0 σ s).2 (m_si day d nC nO 0 σ s).1

/-- X7_sends -/
def q_X7_sends (σ : x_St) (o w nC : Nat) (day : Int32) : Int32 → x_St → Prop := fun r σ' => r = (m_snd σ o w nC day).1 ∧ σ' = (m_snd σ o w nC day).2
set_option maxHeartbeats 4000000 in
set_option maxRecDepth 100000 in
theorem c_X7_sends {l : Launch} {D : va_G} {cs : Nat → ClassId} {base : Nat} {ad : Nat → Nat → Nat} {n st : Nat → Nat} {σ : x_St} (o w nC : Nat) (day : Int32) (ho : o < 30) (hC : σ 7 0 3 = nI nC) (hC0 : nC ≤ 30) (hw9 : σ 60 0 o = nI w) (hw0 : w ≤ 9) (h7 : 0 < n 7) (hm : ∀ k, 36 ≤ k → k < 70 → 0 < n k ∧ 0 < st (100 + k)) : x_Ci l yX7_sends cX7_sends 5 (some .int) 2 0 0 D cs base ad n st σ [.ref (ad 7 0), .int (nI o), .int day] (q_X7_sends σ o w nC day) (fun σ' => x_U D cs base ad n st σ') := by
  refine Met.ofW (cc := cX7_sends) (maxL := 5) (ret := some .int) (by decide) rfl ?_
  intro p e s m args below meth c s₁ B hml hv
  obtain ⟨rfl, hU⟩ := hv
  have hx := B.exec
  have hb := B.bytes
  have hr := B.returns
  have hts := atoms_spec (ws := Cond.code yX7_sends cX7_sends 5 (some .int) :: Tw) B.pre
  have hown : s.vm.findClass RX7 = some m.cls := findClass_of_methodNamed B.named
  have hlocks := B.notSynchronized
  have hc : CallFix p m c cX7_sends 5 s (([.ref (ad 7 0), .int (nI o), .int day] : List Value).toArray) Tw RX7 := ⟨hx, hb, hml, hown, fun w hw => hts w (List.mem_cons_of_mem _ hw)⟩
  have hw := x_B.start hU
  have hl := lv_entry ([.ref (ad 7 0), .int (nI o), .int day]) (n := 5) (Nat.le_of_ble_eq_true rfl)
  rw [lg_entry_eq]
  generalize (lg_sl ([.ref (ad 7 0), .int (nI o), .int day]) ++ List.replicate (5 - (lg_sl ([.ref (ad 7 0), .int (nI o), .int day])).length) Slot.unset).toArray = ls at hl ⊢
  have hl : lv_has ls 5 [(0, .ref (ad 7 0)), (1, .int (nI o)), (2, .int day)] := hl
  show W p l e (x_rm 2 0 0) s m ([.ref (ad 7 0), .int (nI o), .int day] : List Value).toArray below meth c s.heap [] 0 0 (MQ below (va_Qi (q_X7_sends σ o w nC day) (fun σ' => x_U D cs base ad n st σ') (x_A base)) ([.ref (ad 7 0), .int (nI o), .int day] : List Value).toArray s 0 0 (x_A base)) (F0 m 0 ls [])
  refine lv_iconst (v := 0) hx hb dX7_sends_0 (by decide) ?_
  refine lv_istore_n (lv' := [(3, .int 0), (0, .ref (ad 7 0)), (1, .int (nI o)), (2, .int day)]) hx hb dX7_sends_1 rfl hl (by decide) rfl (fun ls hl => ?_)
  refine lv_iconst (v := 0) hx hb dX7_sends_2 (by decide) ?_
  refine lv_istore (lv' := [(4, .int 0), (3, .int 0), (0, .ref (ad 7 0)), (1, .int (nI o)), (2, .int day)]) hx hb dX7_sends_3 hl (by decide) rfl (fun ls hl => ?_)
  have cut_5 : ∀ (N : Nat) (k : Nat) (cn : Nat) (x3 : Int32) (x4 : Int32), (k ≤ nC) → (x3 = nI cn) → (x4 = nI k) → (cn ≤ k) → (cn + m_nr σ o (nC - k) k = m_nr σ o nC 0) → (nC - k < N) → ∀ (H : Heap) (locs : List Loc) (ls : Array Slot), lv_has ls 5 [(0, .ref (ad 7 0)), (1, .int (nI o)), (2, .int day), (3, .int x3), (4, .int x4)] → x_B D cs base ad n st σ s H locs → W p l e (x_rm 2 0 0) s m ([.ref (ad 7 0), .int (nI o), .int day] : List Value).toArray below meth c H locs 0 0 (MQ below (va_Qi (q_X7_sends σ o w nC day) (fun σ' => x_U D cs base ad n st σ') (x_A base)) ([.ref (ad 7 0), .int (nI o), .int day] : List Value).toArray s 0 0 (x_A base)) (F0 m 5 ls []) := by
    intro N
    induction N with
    | zero => intro k cn x3 x4 hk h3 h4 hcn hI hN; exact absurd hN (Nat.not_lt_zero _)
    | succ N ih_5 =>
      intro k cn x3 x4 hk h3 h4 hcn hI hN H locs ls hl hw
      refine lv_iload hx hb dX7_sends_5 (lv_at hl 4 rfl) ?_
      refine lv_aload_n hx hb dX7_sends_7 rfl (lv_at hl 0 rfl) ?_
      refine xg_i hc hw 7 0 3 rfl rfl rfl rfl (by decide) (h7) mw_690 dX7_sends_8 ?_
      refine lv_icmp_ge (tgt := 33) hx hb dX7_sends_11 (by decide) (fun c_11 => ?_) (fun c_11 => ?_)
      · have hz := x_ge h4 hC (by omega) (by omega) c_11
        have hz0 : nC - k = 0 := by omega
        refine lv_iload_n hx hb dX7_sends_33 rfl (lv_at hl 3 rfl) ?_
        refine lv_aload_n hx hb dX7_sends_34 rfl (lv_at hl 0 rfl) ?_
        refine xg_r hc hw 7 0 30 rfl rfl rfl rfl (by decide) (h7) ((hm 60 (by decide) (by decide)).2) mw_717 dX7_sends_35 ?_
        refine lv_iload_n hx hb dX7_sends_38 rfl (lv_at hl 1 rfl) ?_
        refine xa_ld hc hw 60 0 o rfl ((hm 60 (by decide) (by decide)).1) (rfl) (ho) dX7_sends_39 ?_
        refine lv_icmp_ge (tgt := 45) hx hb dX7_sends_40 (by decide) (fun c_40 => ?_) (fun c_40 => ?_)
        · have hT : w ≤ m_nr σ o nC 0 := (by have q := x_ge h3 hw9 (by omega) (by omega) c_40; rw [hz0, m_nr] at hI; omega)
          refine lv_iconst (v := 0) hx hb dX7_sends_45 (by decide) ?_
          refine lv_istore_n (lv' := [(3, .int 0), (0, .ref (ad 7 0)), (1, .int (nI o)), (2, .int day), (4, .int x4)]) hx hb dX7_sends_46 rfl hl (by decide) rfl (fun ls hl => ?_)
          refine lv_iconst (v := 0) hx hb dX7_sends_47 (by decide) ?_
          refine lv_istore (lv' := [(4, .int 0), (3, .int 0), (0, .ref (ad 7 0)), (1, .int (nI o)), (2, .int day)]) hx hb dX7_sends_48 hl (by decide) rfl (fun ls hl => ?_)
          have cut_50 : ∀ (N : Nat) (c9 : Nat) (nn : Nat) (x3b : Int32) (x4b : Int32) (σc : x_St), (c9 ≤ nC) → (nn ≤ w) → (x3b = nI nn) → (x4b = nI c9) → (σc 60 0 o = nI w) → (m_keep σ σc) → (w ≤ nn + m_nr σc o (nC - c9) c9) → (m_gv o (nC - c9) c9 (w - nn) σc = m_gv o nC 0 w σ) → (nC - c9 < N) → ∀ (H : Heap) (locs : List Loc) (ls : Array Slot), lv_has ls 5 [(0, .ref (ad 7 0)), (1, .int (nI o)), (2, .int day), (3, .int x3b), (4, .int x4b)] → x_B D cs base ad n st σc s H locs → W p l e (x_rm 2 0 0) s m ([.ref (ad 7 0), .int (nI o), .int day] : List Value).toArray below meth c H locs 0 0 (MQ below (va_Qi (q_X7_sends σ o w nC day) (fun σ' => x_U D cs base ad n st σ') (x_A base)) ([.ref (ad 7 0), .int (nI o), .int day] : List Value).toArray s 0 0 (x_A base)) (F0 m 50 ls []) := by
            intro N
            induction N with
            | zero => intro c9 nn x3b x4b σc hc9 hnn h3b h4b hw1 hkp hrem hJ hN; exact absurd hN (Nat.not_lt_zero _)
            | succ N ih_50 =>
              intro c9 nn x3b x4b σc hc9 hnn h3b h4b hw1 hkp hrem hJ hN H locs ls hl hw
              refine lv_iload_n hx hb dX7_sends_50 rfl (lv_at hl 3 rfl) ?_
              refine lv_aload_n hx hb dX7_sends_51 rfl (lv_at hl 0 rfl) ?_
              refine xg_r hc hw 7 0 30 rfl rfl rfl rfl (by decide) (h7) ((hm 60 (by decide) (by decide)).2) mw_717 dX7_sends_52 ?_
              refine lv_iload_n hx hb dX7_sends_55 rfl (lv_at hl 1 rfl) ?_
              refine xa_ld hc hw 60 0 o rfl ((hm 60 (by decide) (by decide)).1) (rfl) (ho) dX7_sends_56 ?_
              refine lv_icmp_ge (tgt := 90) hx hb dX7_sends_57 (by decide) (fun c_57 => ?_) (fun c_57 => ?_)
              · refine lv_aload_n hx hb dX7_sends_90 rfl (lv_at hl 0 rfl) ?_
                refine xg_r hc hw 7 0 37 rfl rfl rfl rfl (by decide) (h7) ((hm 67 (by decide) (by decide)).2) mw_724 dX7_sends_91 ?_
                refine lv_iload_n hx hb dX7_sends_94 rfl (lv_at hl 1 rfl) ?_
                refine lv_iload_n hx hb dX7_sends_95 rfl (lv_at hl 2 rfl) ?_
                refine xa_st hc hw 67 0 o rfl ((hm 67 (by decide) (by decide)).1) (rfl) (ho) dX7_sends_96 (fun H locs hw => ?_)
                refine lv_aload_n hx hb dX7_sends_97 rfl (lv_at hl 0 rfl) ?_
                refine xg_r hc hw 7 0 30 rfl rfl rfl rfl (by decide) (h7) ((hm 60 (by decide) (by decide)).2) mw_717 dX7_sends_98 ?_
                refine lv_iload_n hx hb dX7_sends_101 rfl (lv_at hl 1 rfl) ?_
                refine xa_ld hc hw 60 0 o rfl ((hm 60 (by decide) (by decide)).1) (rfl) (ho) dX7_sends_102 ?_
                refine lv_iload_n hx hb dX7_sends_103 rfl (lv_at hl 2 rfl) ?_
                refine lv_aload_n hx hb dX7_sends_104 rfl (lv_at hl 0 rfl) ?_
                refine xg_r hc hw 7 0 35 rfl rfl rfl rfl (by decide) (h7) ((hm 65 (by decide) (by decide)).2) mw_722 dX7_sends_105 ?_
                refine lv_iload_n hx hb dX7_sends_108 rfl (lv_at hl 1 rfl) ?_
                refine xa_ld hc hw 65 0 o rfl ((hm 65 (by decide) (by decide)).1) (rfl) (ho) dX7_sends_109 ?_
                refine lv_icmp_le (tgt := 124) hx hb dX7_sends_110 (by decide) (fun c_110 => ?_) (fun c_110 => ?_)
                · refine lv_aload_n hx hb dX7_sends_124 rfl (lv_at hl 0 rfl) ?_
                  refine xg_r hc hw 7 0 36 rfl rfl rfl rfl (by decide) (h7) ((hm 66 (by decide) (by decide)).2) mw_723 dX7_sends_125 ?_
                  refine lv_iload_n hx hb dX7_sends_128 rfl (lv_at hl 1 rfl) ?_
                  refine xa_ld hc hw 66 0 o rfl ((hm 66 (by decide) (by decide)).1) (rfl) (ho) dX7_sends_129 ?_
                  refine lv_imul hx hb dX7_sends_130 ?_
                  exact xr_i hc hlocks hr rfl hw (by have he := x_ge h3b hw1 (by omega) (by omega) c_57; rw [show w - nn = 0 by omega, m_gv_0] at hJ; have e60 := hkp 60 0 o (by decide); have e65 := hkp 65 0 o (by decide); have e66 := hkp 66 0 o (by decide); have c2 := c_110; simp [x_up, e65] at c2; rw [q_X7_sends, m_snd, if_neg (by omega), ← hJ]; refine ⟨?_, rfl⟩; first | (simp [x_up, e60, e66, hw9, c2]; done) | (simp [x_up, e60, e66, hw9, Int32.not_lt.mpr c2]; done)) (Nat.le_of_ble_eq_true rfl) (Nat.le_of_ble_eq_true rfl) dX7_sends_131
                · refine lv_aload_n hx hb dX7_sends_113 rfl (lv_at hl 0 rfl) ?_
                  refine xg_r hc hw 7 0 36 rfl rfl rfl rfl (by decide) (h7) ((hm 66 (by decide) (by decide)).2) mw_723 dX7_sends_114 ?_
                  refine lv_iload_n hx hb dX7_sends_117 rfl (lv_at hl 1 rfl) ?_
                  refine xa_ld hc hw 66 0 o rfl ((hm 66 (by decide) (by decide)).1) (rfl) (ho) dX7_sends_118 ?_
                  refine lv_iconst (v := 2) hx hb dX7_sends_119 (by decide) ?_
                  refine lv_idiv hx hb dX7_sends_120 (by decide) ?_
                  refine lv_goto (tgt := 130) hx hb dX7_sends_121 (by decide) ?_
                  refine lv_imul hx hb dX7_sends_130 ?_
                  exact xr_i hc hlocks hr rfl hw (by have he := x_ge h3b hw1 (by omega) (by omega) c_57; rw [show w - nn = 0 by omega, m_gv_0] at hJ; have e60 := hkp 60 0 o (by decide); have e65 := hkp 65 0 o (by decide); have e66 := hkp 66 0 o (by decide); have c2 := c_110; simp [x_up, e65] at c2; rw [q_X7_sends, m_snd, if_neg (by omega), ← hJ]; refine ⟨?_, rfl⟩; first | (simp [x_up, e60, e66, hw9, c2]; done) | (simp [x_up, e60, e66, hw9, Int32.not_lt.mpr c2]; done)) (Nat.le_of_ble_eq_true rfl) (Nat.le_of_ble_eq_true rfl) dX7_sends_131
              · have hnw : nn < w := x_nge h3b hw1 (by omega) (by omega) c_57
                have hlc : c9 < nC := Nat.lt_of_not_le (fun q => by rw [show nC - c9 = 0 by omega, m_nr] at hrem; omega)
                have hst : nC - c9 = (nC - (c9 + 1)) + 1 := by omega
                rw [hst, m_nr] at hrem
                rw [hst, m_gv, if_neg (by omega)] at hJ
                have cut_84 : ∀ (n2 : Nat) (y3 : Int32) (σd : x_St), (n2 ≤ w) → (y3 = nI n2) → (m_keep σ σd) → (w ≤ n2 + m_nr σd o (nC - (c9 + 1)) (c9 + 1)) → (m_gv o (nC - (c9 + 1)) (c9 + 1) (w - n2) σd = m_gv o nC 0 w σ) → ∀ (H : Heap) (locs : List Loc) (ls : Array Slot), lv_has ls 5 [(0, .ref (ad 7 0)), (1, .int (nI o)), (2, .int day), (3, .int y3), (4, .int x4b)] → x_B D cs base ad n st σd s H locs → W p l e (x_rm 2 0 0) s m ([.ref (ad 7 0), .int (nI o), .int day] : List Value).toArray below meth c H locs 0 0 (MQ below (va_Qi (q_X7_sends σ o w nC day) (fun σ' => x_U D cs base ad n st σ') (x_A base)) ([.ref (ad 7 0), .int (nI o), .int day] : List Value).toArray s 0 0 (x_A base)) (F0 m 84 ls []) := by
                  intro n2 y3 σd hn2 h3d hkd hrd hJd H locs ls hl hw
                  obtain ⟨x4_84, ex4_84⟩ : ∃ y : Int32, y = x4b + 1 := ⟨_, rfl⟩
                  refine lv_iinc (v := x4_84) (lv' := [(4, .int x4_84), (0, .ref (ad 7 0)), (1, .int (nI o)), (2, .int day), (3, .int y3)]) hx hb dX7_sends_84 hl (k := 4) rfl (by rw [ex4_84]; rfl) (by decide) rfl (fun ls hl => ?_)
                  refine lv_goto (tgt := 50) hx hb dX7_sends_87 (by decide) ?_
                  exact ih_50 (c9 + 1) n2 _ _ _ (by omega) (hn2) (h3d) (by rw [ex4_84, h4b, nI_1]) ((hkd 60 0 o (by decide)).trans hw9) (hkd) (hrd) (hJd) (by omega) _ _ _ (lv_sub hl [1, 2, 3, 4, 0] rfl) hw
                refine lv_aload_n hx hb dX7_sends_60 rfl (lv_at hl 0 rfl) ?_
                refine lv_iload hx hb dX7_sends_61 (lv_at hl 4 rfl) ?_
                refine lv_iload_n hx hb dX7_sends_63 rfl (lv_at hl 1 rfl) ?_
                refine xc_Vi hc hw 7 0 (c_X7_isFor c9 o (by omega) ho h7 hm) rfl rfl (h7) mw_947 mw_944 mw_4 mw_946 mp_32 xd_X7_isFor ⟨by decide, by decide⟩ (by rw [h4b]; rfl) hl.1 (Nat.le_of_ble_eq_true rfl) dX7_sends_64 ⟨Nat.le_of_ble_eq_true rfl, Nat.le_of_ble_eq_true rfl⟩ (fun r_64 σ_64 H locs hq hw => ?_)
                obtain ⟨hσ_64, hr_64⟩ := hq
                rw [hσ_64] at hw
                refine lv_if_ne (tgt := 73) hx hb dX7_sends_67 (by decide) (fun c_67 => ?_) (fun c_67 => ?_)
                · have hF := x_if1 hr_64 c_67
                  rw [if_pos hF] at hJ hrem
                  refine lv_aload_n hx hb dX7_sends_73 rfl (lv_at hl 0 rfl) ?_
                  refine xg_r hc hw 7 0 28 rfl rfl rfl rfl (by decide) (h7) ((hm 58 (by decide) (by decide)).2) mw_715 dX7_sends_74 ?_
                  refine lv_iload hx hb dX7_sends_77 (lv_at hl 4 rfl) ?_
                  refine lv_iload_n hx hb dX7_sends_79 rfl (lv_at hl 1 rfl) ?_
                  refine xa_st hc hw 58 0 c9 rfl ((hm 58 (by decide) (by decide)).1) (h4b) (by show _ < 30; omega) dX7_sends_80 (fun H locs hw => ?_)
                  obtain ⟨x3_81, ex3_81⟩ : ∃ y : Int32, y = x3b + 1 := ⟨_, rfl⟩
                  refine lv_iinc (v := x3_81) (lv' := [(3, .int x3_81), (0, .ref (ad 7 0)), (1, .int (nI o)), (2, .int day), (4, .int x4b)]) hx hb dX7_sends_81 hl (k := 3) rfl (by rw [ex3_81]; rfl) (by decide) rfl (fun ls hl => ?_)
                  exact cut_84 (nn + 1) _ _ (by omega) (by rw [ex3_81, h3b, nI_1]) (fun k i j hk => by rw [x_up_n (fun q => hk q.1)]; exact hkp k i j hk) (by rw [m_nr_up σc o (nI o) c9 (show c9 < c9 + 1 by omega)]; omega) (by rw [show w - (nn + 1) = w - nn - 1 by omega]; exact hJ) _ _ _ (lv_sub hl [1, 2, 3, 0, 4] rfl) hw
                · refine lv_goto (tgt := 84) hx hb dX7_sends_70 (by decide) ?_
                  exact cut_84 nn _ _ (hnn) (h3b) (hkp) (by rw [if_neg (x_if0 hr_64 c_67)] at hrem; omega) (by rw [if_neg (x_if0 hr_64 c_67)] at hJ; exact hJ) _ _ _ (lv_sub hl [0, 1, 2, 3, 4] rfl) hw
          exact cut_50 _ 0 0 _ _ _ (Nat.zero_le _) (Nat.zero_le _) (rfl) (rfl) (hw9) (fun _ _ _ _ => rfl) (by rw [Nat.zero_add]; exact hT) (rfl) (Nat.lt_succ_self _) _ _ _ (lv_sub hl [2, 3, 4, 1, 0] rfl) hw
        · refine lv_iconst (v := 0) hx hb dX7_sends_43 (by decide) ?_
          exact xr_i hc hlocks hr rfl hw (by have hb := x_nge h3 hw9 (by omega) (by omega) c_40; rw [hz0, m_nr] at hI; rw [q_X7_sends, m_snd, if_pos (by omega)]; exact ⟨rfl, rfl⟩) (Nat.le_of_ble_eq_true rfl) (Nat.le_of_ble_eq_true rfl) dX7_sends_44
      · have hlt : k < nC := x_nge h4 hC (by omega) (by omega) c_11
        have hst : nC - k = (nC - (k + 1)) + 1 := by omega
        rw [hst, m_nr] at hI
        refine lv_aload_n hx hb dX7_sends_14 rfl (lv_at hl 0 rfl) ?_
        refine lv_iload hx hb dX7_sends_15 (lv_at hl 4 rfl) ?_
        refine lv_iload_n hx hb dX7_sends_17 rfl (lv_at hl 1 rfl) ?_
        refine xc_Vi hc hw 7 0 (c_X7_isFor k o (by omega) ho h7 hm) rfl rfl (h7) mw_947 mw_944 mw_4 mw_946 mp_32 xd_X7_isFor ⟨by decide, by decide⟩ (by rw [h4]; rfl) hl.1 (Nat.le_of_ble_eq_true rfl) dX7_sends_18 ⟨Nat.le_of_ble_eq_true rfl, Nat.le_of_ble_eq_true rfl⟩ (fun r_18 σ_18 H locs hq hw => ?_)
        obtain ⟨hσ_18, hr_18⟩ := hq
        rw [hσ_18] at hw
        refine lv_if_eq (tgt := 27) hx hb dX7_sends_21 (by decide) (fun c_21 => ?_) (fun c_21 => ?_)
        · obtain ⟨x4_27, ex4_27⟩ : ∃ y : Int32, y = x4 + 1 := ⟨_, rfl⟩
          refine lv_iinc (v := x4_27) (lv' := [(4, .int x4_27), (0, .ref (ad 7 0)), (1, .int (nI o)), (2, .int day), (3, .int x3)]) hx hb dX7_sends_27 hl (k := 4) rfl (by rw [ex4_27]; rfl) (by decide) rfl (fun ls hl => ?_)
          refine lv_goto (tgt := 5) hx hb dX7_sends_30 (by decide) ?_
          exact ih_5 (k + 1) (cn + if m_for σ k o then 1 else 0) _ _ (by omega) (by first | (rw [ex3_24, h3, nI_1, if_pos (x_if1 hr_18 c_21)]) | (rw [h3, if_neg (x_if0 hr_18 c_21), Nat.add_zero])) (by rw [ex4_27, h4, nI_1]) (by split <;> omega) (by rw [← hI]; omega) (by omega) _ _ _ (lv_sub hl [1, 2, 3, 4, 0] rfl) hw
        · obtain ⟨x3_24, ex3_24⟩ : ∃ y : Int32, y = x3 + 1 := ⟨_, rfl⟩
          refine lv_iinc (v := x3_24) (lv' := [(3, .int x3_24), (0, .ref (ad 7 0)), (1, .int (nI o)), (2, .int day), (4, .int x4)]) hx hb dX7_sends_24 hl (k := 3) rfl (by rw [ex3_24]; rfl) (by decide) rfl (fun ls hl => ?_)
          obtain ⟨x4_27, ex4_27⟩ : ∃ y : Int32, y = x4 + 1 := ⟨_, rfl⟩
          refine lv_iinc (v := x4_27) (lv' := [(4, .int x4_27), (3, .int x3_24), (0, .ref (ad 7 0)), (1, .int (nI o)), (2, .int day)]) hx hb dX7_sends_27 hl (k := 4) rfl (by rw [ex4_27]; rfl) (by decide) rfl (fun ls hl => ?_)
          refine lv_goto (tgt := 5) hx hb dX7_sends_30 (by decide) ?_
          exact ih_5 (k + 1) (cn + if m_for σ k o then 1 else 0) _ _ (by omega) (by first | (rw [ex3_24, h3, nI_1, if_pos (x_if1 hr_18 c_21)]) | (rw [h3, if_neg (x_if0 hr_18 c_21), Nat.add_zero])) (by rw [ex4_27, h4, nI_1]) (by split <;> omega) (by rw [← hI]; omega) (by omega) _ _ _ (lv_sub hl [2, 3, 4, 1, 0] rfl) hw
  exact cut_5 _ 0 0 _ _ (Nat.zero_le _) (rfl) (rfl) (Nat.le_refl _) (by rw [Nat.zero_add]; rfl) (Nat.lt_succ_self _) _ _ _ (lv_sub hl [2, 3, 4, 1, 0] rfl) hw
/-- X7_send -/
def q_X7_send (σ : x_St) (a : Int32) (nC nO : Nat) : Int32 → x_St → Prop := fun r σ' => ((0 ≤ a ∧ a ≤ 2000) → r = (m_so a nC nO 1000 0 (x_up σ 7 0 0 0) 0).1 ∧ σ' = x_up (m_so a nC nO 1000 0 (x_up σ 7 0 0 0) 0).2 7 0 5 (σ 7 0 5 + (m_so a nC nO 1000 0 (x_up σ 7 0 0 0) 0).1)) ∧ (¬ (0 ≤ a ∧ a ≤ 2000) → σ' = x_up σ 7 0 0 1)
set_option maxHeartbeats 4000000 in
set_option maxRecDepth 100000 in
theorem c_X7_send {l : Launch} {D : va_G} {cs : Nat → ClassId} {base : Nat} {ad : Nat → Nat → Nat} {n st : Nat → Nat} {σ : x_St} (a : Int32) (nC : Nat) (hC : σ 7 0 3 = nI nC) (hC0 : nC ≤ 30) (nO : Nat) (hO : σ 7 0 4 = nI nO) (hO0 : nO ≤ 30) (hmn : ∀ q, q < nO → σ 60 0 q = nI (x_c (σ 60 0 q)) ∧ x_c (σ 60 0 q) ≤ 9) (h7 : 0 < n 7) (hm : ∀ k, 36 ≤ k → k < 70 → 0 < n k ∧ 0 < st (100 + k)) : x_Ci l yX7_send cX7_send 5 (some .int) 4 0 0 D cs base ad n st σ [.ref (ad 7 0), .int a] (q_X7_send σ a nC nO) (fun σ' => x_U D cs base ad n st σ') := by
  refine Met.ofW (cc := cX7_send) (maxL := 5) (ret := some .int) (by decide) rfl ?_
  intro p e s m args below meth c s₁ B hml hv
  obtain ⟨rfl, hU⟩ := hv
  have hx := B.exec
  have hb := B.bytes
  have hr := B.returns
  have hts := atoms_spec (ws := Cond.code yX7_send cX7_send 5 (some .int) :: Tw) B.pre
  have hown : s.vm.findClass RX7 = some m.cls := findClass_of_methodNamed B.named
  have hlocks := B.notSynchronized
  have hc : CallFix p m c cX7_send 5 s (([.ref (ad 7 0), .int a] : List Value).toArray) Tw RX7 := ⟨hx, hb, hml, hown, fun w hw => hts w (List.mem_cons_of_mem _ hw)⟩
  have hw := x_B.start hU
  have hl := lv_entry ([.ref (ad 7 0), .int a]) (n := 5) (Nat.le_of_ble_eq_true rfl)
  rw [lg_entry_eq]
  generalize (lg_sl ([.ref (ad 7 0), .int a]) ++ List.replicate (5 - (lg_sl ([.ref (ad 7 0), .int a])).length) Slot.unset).toArray = ls at hl ⊢
  have hl : lv_has ls 5 [(0, .ref (ad 7 0)), (1, .int a)] := hl
  show W p l e (x_rm 4 0 0) s m ([.ref (ad 7 0), .int a] : List Value).toArray below meth c s.heap [] 0 0 (MQ below (va_Qi (q_X7_send σ a nC nO) (fun σ' => x_U D cs base ad n st σ') (x_A base)) ([.ref (ad 7 0), .int a] : List Value).toArray s 0 0 (x_A base)) (F0 m 0 ls [])
  refine lv_aload_n hx hb dX7_send_0 rfl (lv_at hl 0 rfl) ?_
  refine lv_iconst (v := 0) hx hb dX7_send_1 (by decide) ?_
  refine xp_i hc hw 7 0 0 rfl rfl rfl rfl (by decide) (h7) rfl (ty := .int) (by decide +kernel) rfl rfl mw_687 dX7_send_2 (fun H locs hw => ?_)
  have cut_22 : ∀ (f : Int32), (f = if (0 ≤ a ∧ a ≤ 2000) then 1 else 0) → ∀ (H : Heap) (locs : List Loc) (ls : Array Slot), lv_has ls 5 [(0, .ref (ad 7 0)), (1, .int a)] → x_B D cs base ad n st (x_up σ 7 0 0 0) s H locs → W p l e (x_rm 4 0 0) s m ([.ref (ad 7 0), .int a] : List Value).toArray below meth c H locs 0 0 (MQ below (va_Qi (q_X7_send σ a nC nO) (fun σ' => x_U D cs base ad n st σ') (x_A base)) ([.ref (ad 7 0), .int a] : List Value).toArray s 0 0 (x_A base)) (F0 m 22 ls [.int f, .ref (ad 7 0)]) := by
    intro f hf H locs ls hl hw
    refine lv_iconst (v := 1) hx hb dX7_send_22 (by decide) ?_
    refine xc_Vi hc hw 7 0 (c_X7_right f 1 h7 hm) rfl rfl (h7) mw_834 mw_831 mw_4 mw_833 mp_20 xd_X7_right ⟨by decide, by decide⟩ (rfl) hl.1 (Nat.le_of_ble_eq_true rfl) dX7_send_23 ⟨Nat.le_of_ble_eq_true rfl, Nat.le_of_ble_eq_true rfl⟩ (fun r_23 σ_23 H locs hq hw => ?_)
    have hq_23 := hq
    obtain ⟨hr_23, hσ_23⟩ := x_right hq_23 x_up_s hf (by decide)
    rw [x_up_up] at hσ_23
    refine lv_if_ne (tgt := 31) hx hb dX7_send_26 (by decide) (fun c_26 => ?_) (fun c_26 => ?_)
    · have hP := x_if1 hr_23 c_26
      rw [if_pos hP] at hσ_23
      refine lv_iconst (v := 0) hx hb dX7_send_31 (by decide) ?_
      refine lv_istore_n (lv' := [(2, .int 0), (0, .ref (ad 7 0)), (1, .int a)]) hx hb dX7_send_32 rfl hl (by decide) rfl (fun ls hl => ?_)
      refine lv_iconst (v := 0) hx hb dX7_send_33 (by decide) ?_
      refine lv_istore_n (lv' := [(3, .int 0), (2, .int 0), (0, .ref (ad 7 0)), (1, .int a)]) hx hb dX7_send_34 rfl hl (by decide) rfl (fun ls hl => ?_)
      have cut_35 : ∀ (N : Nat) (dd : Nat) (x2 : Int32) (x3 : Int32) (σb : x_St), (dd ≤ 1000) → (x3 = nI dd) → (m_keep2 (x_up σ 7 0 0 0) σb) → (m_so a nC nO (1000 - dd) dd σb x2 = (m_so a nC nO 1000 0 (x_up σ 7 0 0 0) 0)) → (1000 - dd < N) → ∀ (H : Heap) (locs : List Loc) (ls : Array Slot), lv_has ls 5 [(0, .ref (ad 7 0)), (1, .int a), (2, .int x2), (3, .int x3)] → x_B D cs base ad n st σb s H locs → W p l e (x_rm 4 0 0) s m ([.ref (ad 7 0), .int a] : List Value).toArray below meth c H locs 0 0 (MQ below (va_Qi (q_X7_send σ a nC nO) (fun σ' => x_U D cs base ad n st σ') (x_A base)) ([.ref (ad 7 0), .int a] : List Value).toArray s 0 0 (x_A base)) (F0 m 35 ls []) := by
        intro N
        induction N with
        | zero => intro dd x2 x3 σb hdd h3 hkb hI hN; exact absurd hN (Nat.not_lt_zero _)
        | succ N ih_35 =>
          intro dd x2 x3 σb hdd h3 hkb hI hN H locs ls hl hw
          refine lv_iload_n hx hb dX7_send_35 rfl (lv_at hl 3 rfl) ?_
          refine lv_sipush (v := 999) hx hb dX7_send_36 (by decide) ?_
          refine lv_icmp_gt (tgt := 98) hx hb dX7_send_39 (by decide) (fun c_39 => ?_) (fun c_39 => ?_)
          · refine lv_aload_n hx hb dX7_send_98 rfl (lv_at hl 0 rfl) ?_
            refine lv_dup hx hb dX7_send_99 rfl ?_
            refine xg_i hc hw 7 0 5 rfl rfl rfl rfl (by decide) (h7) mw_692 dX7_send_100 ?_
            refine lv_iload_n hx hb dX7_send_103 rfl (lv_at hl 2 rfl) ?_
            refine lv_iadd hx hb dX7_send_104 ?_
            refine xp_i hc hw 7 0 5 rfl rfl rfl rfl (by decide) (h7) rfl (ty := .int) (by decide +kernel) rfl rfl mw_692 dX7_send_105 (fun H locs hw => ?_)
            refine lv_iload_n hx hb dX7_send_108 rfl (lv_at hl 2 rfl) ?_
            exact xr_i hc hlocks hr rfl hw (⟨fun _ => by have hz : ¬ dd ≤ 999 := (fun q => absurd (nI_le q (by decide)) (Int32.not_le.mpr (by rw [← h3]; exact c_39))); rw [show 1000 - dd = 0 by omega, m_so] at hI; rw [← hI]; exact ⟨rfl, by rw [hkb 7 0 5 (by decide) (by decide)]; simp [x_up]⟩, fun h => absurd hP h⟩) (Nat.le_of_ble_eq_true rfl) (Nat.le_of_ble_eq_true rfl) dX7_send_109
          · have hd9 : dd < 1000 := (by have q := x_ngt h3 (b := 999) rfl (by omega) (by decide) c_39; omega)
            have hst : 1000 - dd = (1000 - (dd + 1)) + 1 := by omega
            rw [hst, m_so] at hI
            refine lv_iconst (v := 0) hx hb dX7_send_42 (by decide) ?_
            refine lv_istore (lv' := [(4, .int 0), (0, .ref (ad 7 0)), (1, .int a), (2, .int x2), (3, .int x3)]) hx hb dX7_send_43 hl (by decide) rfl (fun ls hl => ?_)
            have cut_45 : ∀ (N : Nat) (o : Nat) (y2 : Int32) (x4 : Int32) (σc : x_St), (o ≤ nO) → (x4 = nI o) → (m_keep2 (x_up σ 7 0 0 0) σc) → (m_si a dd nC (nO - o) o σc y2 = m_si a dd nC nO 0 σb x2) → (nO - o < N) → ∀ (H : Heap) (locs : List Loc) (ls : Array Slot), lv_has ls 5 [(0, .ref (ad 7 0)), (1, .int a), (2, .int y2), (3, .int x3), (4, .int x4)] → x_B D cs base ad n st σc s H locs → W p l e (x_rm 4 0 0) s m ([.ref (ad 7 0), .int a] : List Value).toArray below meth c H locs 0 0 (MQ below (va_Qi (q_X7_send σ a nC nO) (fun σ' => x_U D cs base ad n st σ') (x_A base)) ([.ref (ad 7 0), .int a] : List Value).toArray s 0 0 (x_A base)) (F0 m 45 ls []) := by
              intro N
              induction N with
              | zero => intro o y2 x4 σc ho h4 hkp hJ hN; exact absurd hN (Nat.not_lt_zero _)
              | succ N ih_45 =>
                intro o y2 x4 σc ho h4 hkp hJ hN H locs ls hl hw
                refine lv_iload hx hb dX7_send_45 (lv_at hl 4 rfl) ?_
                refine lv_aload_n hx hb dX7_send_47 rfl (lv_at hl 0 rfl) ?_
                refine xg_i hc hw 7 0 4 rfl rfl rfl rfl (by decide) (h7) mw_691 dX7_send_48 ?_
                refine lv_icmp_ge (tgt := 92) hx hb dX7_send_51 (by decide) (fun c_51 => ?_) (fun c_51 => ?_)
                · have hz := x_ge h4 ((hkp 7 0 4 (by decide) (by decide)).trans (by simpa [x_up] using hO)) (by omega) (by omega) c_51
                  rw [show nO - o = 0 by omega, m_si] at hJ
                  obtain ⟨x3_92, ex3_92⟩ : ∃ y : Int32, y = x3 + 1 := ⟨_, rfl⟩
                  refine lv_iinc (v := x3_92) (lv' := [(3, .int x3_92), (0, .ref (ad 7 0)), (1, .int a), (2, .int y2), (4, .int x4)]) hx hb dX7_send_92 hl (k := 3) rfl (by rw [ex3_92]; rfl) (by decide) rfl (fun ls hl => ?_)
                  refine lv_goto (tgt := 35) hx hb dX7_send_95 (by decide) ?_
                  exact ih_35 (dd + 1) _ _ _ (by omega) (by rw [ex3_92, h3, nI_1]) (hkp) (by rw [← hJ] at hI; exact hI) (by omega) _ _ _ (lv_sub hl [1, 2, 3, 0] rfl) hw
                · have hlt : o < nO := x_nge h4 ((hkp 7 0 4 (by decide) (by decide)).trans (by simpa [x_up] using hO)) (by omega) (by omega) c_51
                  have hst2 : nO - o = (nO - (o + 1)) + 1 := by omega
                  rw [hst2, m_si] at hJ
                  have cut_86 : ∀ (z2 : Int32) (σd : x_St), (m_keep2 (x_up σ 7 0 0 0) σd) → (m_si a dd nC (nO - (o + 1)) (o + 1) σd z2 = m_si a dd nC nO 0 σb x2) → ∀ (H : Heap) (locs : List Loc) (ls : Array Slot), lv_has ls 5 [(0, .ref (ad 7 0)), (1, .int a), (2, .int z2), (3, .int x3), (4, .int x4)] → x_B D cs base ad n st σd s H locs → W p l e (x_rm 4 0 0) s m ([.ref (ad 7 0), .int a] : List Value).toArray below meth c H locs 0 0 (MQ below (va_Qi (q_X7_send σ a nC nO) (fun σ' => x_U D cs base ad n st σ') (x_A base)) ([.ref (ad 7 0), .int a] : List Value).toArray s 0 0 (x_A base)) (F0 m 86 ls []) := by
                    intro z2 σd hkd hJd H locs ls hl hw
                    obtain ⟨x4_86, ex4_86⟩ : ∃ y : Int32, y = x4 + 1 := ⟨_, rfl⟩
                    refine lv_iinc (v := x4_86) (lv' := [(4, .int x4_86), (0, .ref (ad 7 0)), (1, .int a), (2, .int z2), (3, .int x3)]) hx hb dX7_send_86 hl (k := 4) rfl (by rw [ex4_86]; rfl) (by decide) rfl (fun ls hl => ?_)
                    refine lv_goto (tgt := 45) hx hb dX7_send_89 (by decide) ?_
                    exact ih_45 (o + 1) _ _ _ (by omega) (by rw [ex4_86, h4, nI_1]) (hkd) (hJd) (by omega) _ _ _ (lv_sub hl [1, 2, 3, 4, 0] rfl) hw
                  refine lv_aload_n hx hb dX7_send_54 rfl (lv_at hl 0 rfl) ?_
                  refine xg_r hc hw 7 0 35 rfl rfl rfl rfl (by decide) (h7) ((hm 65 (by decide) (by decide)).2) mw_722 dX7_send_55 ?_
                  refine lv_iload hx hb dX7_send_58 (lv_at hl 4 rfl) ?_
                  refine xa_ld hc hw 65 0 o rfl ((hm 65 (by decide) (by decide)).1) (h4) (by show _ < 30; omega) dX7_send_60 ?_
                  refine lv_iload_n hx hb dX7_send_61 rfl (lv_at hl 3 rfl) ?_
                  refine lv_icmp_ne (tgt := 86) hx hb dX7_send_62 (by decide) (fun c_62 => ?_) (fun c_62 => ?_)
                  · exact cut_86 _ _ (hkp) (by rw [if_neg (fun q => c_62 (q.1.trans h3.symm))] at hJ; exact hJ) _ _ _ (lv_sub hl [0, 1, 2, 3, 4] rfl) hw
                  · refine lv_aload_n hx hb dX7_send_65 rfl (lv_at hl 0 rfl) ?_
                    refine xg_r hc hw 7 0 37 rfl rfl rfl rfl (by decide) (h7) ((hm 67 (by decide) (by decide)).2) mw_724 dX7_send_66 ?_
                    refine lv_iload hx hb dX7_send_69 (lv_at hl 4 rfl) ?_
                    refine xa_ld hc hw 67 0 o rfl ((hm 67 (by decide) (by decide)).1) (h4) (by show _ < 30; omega) dX7_send_71 ?_
                    refine lv_iconst (v := (-1)) hx hb dX7_send_72 (by decide) ?_
                    refine lv_icmp_ne (tgt := 86) hx hb dX7_send_73 (by decide) (fun c_73 => ?_) (fun c_73 => ?_)
                    · exact cut_86 _ _ (hkp) (by rw [if_neg (fun q => c_73 q.2)] at hJ; exact hJ) _ _ _ (lv_sub hl [0, 1, 2, 3, 4] rfl) hw
                    · refine lv_iload_n hx hb dX7_send_76 rfl (lv_at hl 2 rfl) ?_
                      refine lv_aload_n hx hb dX7_send_77 rfl (lv_at hl 0 rfl) ?_
                      refine lv_iload hx hb dX7_send_78 (lv_at hl 4 rfl) ?_
                      refine lv_iload_n hx hb dX7_send_80 rfl (lv_at hl 1 rfl) ?_
                      refine xc_Vi hc hw 7 0 (c_X7_sends o (x_c (σc 60 0 o)) nC a (by omega) ((hkp 7 0 3 (by decide) (by decide)).trans (by simpa [x_up] using hC)) hC0 (by rw [hkp 60 0 o (by decide) (by decide)]; simpa [x_up] using (hmn o hlt).1) (by rw [hkp 60 0 o (by decide) (by decide)]; simpa [x_up] using (hmn o hlt).2) h7 hm) rfl rfl (h7) mw_943 mw_940 mw_4 mw_942 mp_31 xd_X7_sends ⟨by decide, by decide⟩ (by rw [h4]; rfl) hl.1 (Nat.le_of_ble_eq_true rfl) dX7_send_81 ⟨Nat.le_of_ble_eq_true rfl, Nat.le_of_ble_eq_true rfl⟩ (fun r_81 σ_81 H locs hq hw => ?_)
                      have hq_81 := hq
                      obtain ⟨hr_81, hσ_81⟩ := hq_81
                      have hin : σc 65 0 o = nI dd ∧ σc 67 0 o = -1 := ⟨c_62.trans h3, c_73⟩
                      rw [if_pos hin] at hJ
                      refine lv_iadd hx hb dX7_send_84 ?_
                      refine lv_topi (fun x2_85 ex2_85 => ?_)
                      refine lv_istore_n (lv' := [(2, .int x2_85), (0, .ref (ad 7 0)), (1, .int a), (3, .int x3), (4, .int x4)]) hx hb dX7_send_85 rfl hl (by decide) rfl (fun ls hl => ?_)
                      exact cut_86 _ _ (by rw [hσ_81]; exact fun k i j h1 h2 => (m_snd_k _ _ _ _ _ _ _ _ h1 h2).trans (hkp k i j h1 h2)) (by rw [hσ_81, ex2_85, hr_81]; exact hJ) _ _ _ (lv_sub hl [1, 2, 0, 3, 4] rfl) hw
            exact cut_45 _ 0 _ _ _ (Nat.zero_le _) (rfl) (hkb) (rfl) (Nat.lt_succ_self _) _ _ _ (lv_sub hl [1, 2, 3, 4, 0] rfl) hw
      exact cut_35 _ 0 _ _ _ (by decide) (rfl) (by rw [hσ_23]; exact fun _ _ _ _ _ => rfl) (by rw [hσ_23]) (Nat.lt_succ_self _) _ _ _ (lv_sub hl [2, 3, 1, 0] rfl) hw
    · refine lv_iconst (v := 0) hx hb dX7_send_29 (by decide) ?_
      exact xr_i hc hlocks hr rfl hw (⟨fun h => absurd h (x_if0 hr_23 c_26), fun _ => by rw [hσ_23, if_neg (x_if0 hr_23 c_26)]⟩) (Nat.le_of_ble_eq_true rfl) (Nat.le_of_ble_eq_true rfl) dX7_send_30
  refine lv_aload_n hx hb dX7_send_5 rfl (lv_at hl 0 rfl) ?_
  refine lv_iload_n hx hb dX7_send_6 rfl (lv_at hl 1 rfl) ?_
  refine lv_if_lt (tgt := 21) hx hb dX7_send_7 (by decide) (fun c_7 => ?_) (fun c_7 => ?_)
  · refine lv_iconst (v := 0) hx hb dX7_send_21 (by decide) ?_
    exact cut_22 _ (by simp_all [← Int32.not_le]) _ _ _ (lv_sub hl [0, 1] rfl) hw
  · refine lv_iload_n hx hb dX7_send_10 rfl (lv_at hl 1 rfl) ?_
    refine lv_sipush (v := 2000) hx hb dX7_send_11 (by decide) ?_
    refine lv_icmp_gt (tgt := 21) hx hb dX7_send_14 (by decide) (fun c_14 => ?_) (fun c_14 => ?_)
    · refine lv_iconst (v := 0) hx hb dX7_send_21 (by decide) ?_
      exact cut_22 _ (by simp_all [← Int32.not_le]) _ _ _ (lv_sub hl [0, 1] rfl) hw
    · refine lv_iconst (v := 1) hx hb dX7_send_17 (by decide) ?_
      refine lv_goto (tgt := 22) hx hb dX7_send_18 (by decide) ?_
      exact cut_22 _ (by simp_all [← Int32.not_le]) _ _ _ (lv_sub hl [0, 1] rfl) hw
