def m_fc (σ : x_St) (s1 s2 s3 t sp : Int32) : Nat → Nat → Nat → Int32 → Nat × Int32
  | 0, _, n, a => (n, a)
  | f + 1, b, n, a => if m_fit σ b s1 s2 s3 t sp then m_fc σ s1 s2 s3 t sp f (b + 1) (n + 1) (if n = 0 then nI b else a) else m_fc σ s1 s2 s3 t sp f (b + 1) n a
def m_ft (σ : x_St) (s1 s2 s3 sp : Int32) (nB : Nat) : Nat → Nat → Int32 → Int32 → Int32 × Int32
  | 0, _, fi, be => (fi, be)
  | f + 1, tt, fi, be => if (m_fc σ s1 s2 s3 (nI tt) sp nB 0 0 (-1)).1 < 12 ∨ (¬ fi = -1 ∧ fi ≤ (m_fc σ s1 s2 s3 (nI tt) sp nB 0 0 (-1)).2) then m_ft σ s1 s2 s3 sp nB f (tt + 1) fi be else m_ft σ s1 s2 s3 sp nB f (tt + 1) (m_fc σ s1 s2 s3 (nI tt) sp nB 0 0 (-1)).2 (nI tt)
def m_fr (σ : x_St) (s1 s2 s3 t sp : Int32) : Nat → Nat → Nat
  | 0, _ => 0
  | f + 1, b => (if m_fit σ b s1 s2 s3 t sp then 1 else 0) + m_fr σ s1 s2 s3 t sp f (b + 1)
def m_cs (s1 s2 s3 t sp : Int32) (nC : Nat) : Nat → Nat → Nat → x_St → x_St
  | 0, _, _, σ => σ
  | f + 1, b, n, σ => if n = 12 then σ else if m_fit σ b s1 s2 s3 t sp then m_cs s1 s2 s3 t sp nC f (b + 1) (n + 1) (x_up (x_up (x_up σ 46 0 b 4) 49 0 b (nI nC)) 59 0 (12 * nC + n) (nI b)) else m_cs s1 s2 s3 t sp nC f (b + 1) n σ
theorem m_cs_12 (s1 s2 s3 t sp : Int32) (nC f b : Nat) (σ : x_St) : m_cs s1 s2 s3 t sp nC f b 12 σ = σ := by
  cases f with
  | zero => rfl
  | succ f => rw [m_cs, if_pos rfl]
def m_cd (σ : x_St) (a b d : Int32) (nC : Nat) : x_St := x_up (x_up (x_up (x_up (x_up σ 55 0 nC a) 56 0 nC b) 57 0 nC d) 58 0 nC (-1)) 7 0 3 (nI (nC + 1))
def m_card (σ : x_St) (a b d f : Int32) (nB nC : Nat) : Int32 × x_St :=
  if nC = 30 then (-1, σ) else if (m_ft σ a b d f nB 9 1 (-1) 0).1 = -1 then (-1, σ) else
  (nI nC, m_cd (m_cs a b d (m_ft σ a b d f nB 9 1 (-1) 0).2 f nC (nB - x_c (m_ft σ a b d f nB 9 1 (-1) 0).1) (x_c (m_ft σ a b d f nB 9 1 (-1) 0).1) 0 σ) a b d nC)
theorem m_fr_up (σ : x_St) (s1 s2 s3 t sp v w z : Int32) (b q : Nat) : ∀ {f b' : Nat}, b < b' → m_fr (x_up (x_up (x_up σ 46 0 b v) 49 0 b w) 59 0 q z) s1 s2 s3 t sp f b' = m_fr σ s1 s2 s3 t sp f b'
  | 0, _, _ => rfl
  | f + 1, b', h => by
    have h1 : ¬ b' = b := by omega
    rw [m_fr, m_fr, m_fr_up σ s1 s2 s3 t sp v w z b q (Nat.lt_succ_of_lt h)]
    simp [m_fit, x_up, h1]
theorem m_fc_pos (σ : x_St) (s1 s2 s3 t sp : Int32) : ∀ (f b n : Nat) (a : Int32), 0 < n → m_fc σ s1 s2 s3 t sp f b n a = (n + m_fr σ s1 s2 s3 t sp f b, a)
  | 0, _, _, _, _ => rfl
  | f + 1, b, n, a, h => by
    rw [m_fc, m_fr]
    split
    · rw [m_fc_pos σ s1 s2 s3 t sp f (b + 1) (n + 1) _ (by omega), if_neg (by omega)]
      congr 1; omega
    · rw [m_fc_pos σ s1 s2 s3 t sp f (b + 1) n a h]
      congr 1; omega
theorem m_fc_z (σ : x_St) (s1 s2 s3 t sp : Int32) : ∀ (f b : Nat), (m_fc σ s1 s2 s3 t sp f b 0 (-1)).1 = m_fr σ s1 s2 s3 t sp f b ∧ (0 < m_fr σ s1 s2 s3 t sp f b → ∃ b0, b ≤ b0 ∧ b0 < b + f ∧ (m_fc σ s1 s2 s3 t sp f b 0 (-1)).2 = nI b0 ∧ m_fr σ s1 s2 s3 t sp (b + f - b0) b0 = m_fr σ s1 s2 s3 t sp f b)
  | 0, _ => ⟨rfl, fun h => absurd h (Nat.lt_irrefl 0)⟩
  | f + 1, b => by
    by_cases hF : m_fit σ b s1 s2 s3 t sp
    · rw [m_fc, if_pos hF, m_fc_pos σ s1 s2 s3 t sp f (b + 1) (0 + 1) _ (by omega)]
      refine ⟨by rw [m_fr, if_pos hF], fun _ => ⟨b, Nat.le_refl b, by omega, rfl, by rw [show b + (f + 1) - b = f + 1 by omega]⟩⟩
    · obtain ⟨h1, h2⟩ := m_fc_z σ s1 s2 s3 t sp f (b + 1)
      have he : m_fr σ s1 s2 s3 t sp (f + 1) b = m_fr σ s1 s2 s3 t sp f (b + 1) := by rw [m_fr, if_neg hF, Nat.zero_add]
      rw [m_fc, if_neg hF, he]
      refine ⟨h1, fun h => ?_⟩
      obtain ⟨b0, q1, q2, q3, q4⟩ := h2 h
      exact ⟨b0, by omega, by omega, q3, by rw [show b + (f + 1) - b0 = b + 1 + f - b0 by omega]; exact q4⟩
theorem m_ft_ok (σ : x_St) (s1 s2 s3 sp : Int32) (nB : Nat) : ∀ (f tt : Nat) (fi be : Int32), (fi = -1 ∨ ∃ b0, b0 < nB ∧ fi = nI b0 ∧ 12 ≤ m_fr σ s1 s2 s3 be sp (nB - b0) b0) → ¬ (m_ft σ s1 s2 s3 sp nB f tt fi be).1 = -1 →
    ∃ b0, b0 < nB ∧ (m_ft σ s1 s2 s3 sp nB f tt fi be).1 = nI b0 ∧ 12 ≤ m_fr σ s1 s2 s3 (m_ft σ s1 s2 s3 sp nB f tt fi be).2 sp (nB - b0) b0
  | 0, _, fi, be, h, hn => by
    rcases h with h | h
    · exact absurd h hn
    · exact h
  | f + 1, tt, fi, be, h, hn => by
    rw [m_ft] at hn ⊢
    split
    · rename_i hc
      rw [if_pos hc] at hn
      exact m_ft_ok σ s1 s2 s3 sp nB f (tt + 1) fi be h hn
    · rename_i hc
      rw [if_neg hc] at hn
      refine m_ft_ok σ s1 s2 s3 sp nB f (tt + 1) _ _ (Or.inr ?_) hn
      obtain ⟨z1, z2⟩ := m_fc_z σ s1 s2 s3 (nI tt) sp nB 0
      have h12 : 12 ≤ m_fr σ s1 s2 s3 (nI tt) sp nB 0 := by
        rw [← z1]; exact Nat.le_of_not_lt (fun q => hc (Or.inl q))
      obtain ⟨b0, q1, q2, q3, q4⟩ := z2 (by omega)
      exact ⟨b0, by omega, q3, by rw [Nat.zero_add] at q4; rw [q4]; exact h12⟩
theorem x_nn0 {x : Int32} {n : Nat} (h : x = nI n) (hn : n < 2 ^ 31) (h0 : x = 0) : n = 0 := (nI_eq hn (by decide)).mp (h.symm.trans h0)
theorem x_nn1 {x : Int32} {n : Nat} (h : x = nI n) (h0 : ¬ x = 0) : ¬ n = 0 := fun q => h0 (by rw [h, q]; rfl)
theorem x_lt12 {x : Int32} {n : Nat} (h : x = nI n) (hn : n < 2 ^ 31) (h0 : x < 12) : n < 12 := by
  rw [h, show (12 : Int32) = nI 12 from rfl] at h0; exact (nI_ltI hn (by decide)).mp h0
theorem x_lt12r {x : Int32} {n : Nat} (h : x = nI n) (h0 : n < 12) : x < 12 := by
  rw [h, show (12 : Int32) = nI 12 from rfl]; exact (nI_ltI (by omega) (by decide)).mpr h0
theorem x_up_n2 (σ : x_St) (b : Nat) (v : Int32) : x_up σ 46 0 b v 7 0 3 = σ 7 0 3 := x_up_n (by simp)
theorem x_up_n3 (σ : x_St) (b : Nat) (v w : Int32) : x_up (x_up σ 46 0 b v) 49 0 b w 7 0 3 = σ 7 0 3 := by simp [x_up]

/-- X7_card -/
def q_X7_card (σ : x_St) (a b d f : Int32) (nB nC : Nat) : Int32 → x_St → Prop := fun r σ' => (((1 ≤ a ∧ a ≤ 3) ∧ (b = 2 ∨ b = 4) ∧ (0 ≤ d ∧ d ≤ 9) ∧ 0 ≤ f ∧ f ≤ 8) → r = (m_card (x_up σ 7 0 0 0) a b d f nB nC).1 ∧ σ' = (m_card (x_up σ 7 0 0 0) a b d f nB nC).2) ∧ (¬ ((1 ≤ a ∧ a ≤ 3) ∧ (b = 2 ∨ b = 4) ∧ (0 ≤ d ∧ d ≤ 9) ∧ 0 ≤ f ∧ f ≤ 8) → σ' = x_up σ 7 0 0 1)
set_option maxHeartbeats 4000000 in
set_option maxRecDepth 100000 in
theorem c_X7_card {l : Launch} {D : va_G} {cs : Nat → ClassId} {base : Nat} {ad : Nat → Nat → Nat} {n st : Nat → Nat} {σ : x_St} (a b d f : Int32) (nB : Nat) (hB : σ 7 0 2 = nI nB) (hB0 : nB ≤ 400) (nC : Nat) (hC : σ 7 0 3 = nI nC) (hC0 : nC ≤ 30) (h7 : 0 < n 7) (hm : ∀ k, 36 ≤ k → k < 70 → 0 < n k ∧ 0 < st (100 + k)) : x_Ci l yX7_card cX7_card 11 (some .int) 4 0 0 D cs base ad n st σ [.ref (ad 7 0), .int a, .int b, .int d, .int f] (q_X7_card σ a b d f nB nC) (fun σ' => x_U D cs base ad n st σ') := by
  refine Met.ofW (cc := cX7_card) (maxL := 11) (ret := some .int) (by decide) rfl ?_
  intro p e s m args below meth c s₁ B hml hv
  obtain ⟨rfl, hU⟩ := hv
  have hx := B.exec
  have hb := B.bytes
  have hr := B.returns
  have hts := atoms_spec (ws := Cond.code yX7_card cX7_card 11 (some .int) :: Tw) B.pre
  have hown : s.vm.findClass RX7 = some m.cls := findClass_of_methodNamed B.named
  have hlocks := B.notSynchronized
  have hc : CallFix p m c cX7_card 11 s (([.ref (ad 7 0), .int a, .int b, .int d, .int f] : List Value).toArray) Tw RX7 := ⟨hx, hb, hml, hown, fun w hw => hts w (List.mem_cons_of_mem _ hw)⟩
  have hw := x_B.start hU
  have hl := lv_entry ([.ref (ad 7 0), .int a, .int b, .int d, .int f]) (n := 11) (Nat.le_of_ble_eq_true rfl)
  rw [lg_entry_eq]
  generalize (lg_sl ([.ref (ad 7 0), .int a, .int b, .int d, .int f]) ++ List.replicate (11 - (lg_sl ([.ref (ad 7 0), .int a, .int b, .int d, .int f])).length) Slot.unset).toArray = ls at hl ⊢
  have hl : lv_has ls 11 [(0, .ref (ad 7 0)), (1, .int a), (2, .int b), (3, .int d), (4, .int f)] := hl
  show W p l e (x_rm 4 0 0) s m ([.ref (ad 7 0), .int a, .int b, .int d, .int f] : List Value).toArray below meth c s.heap [] 0 0 (MQ below (va_Qi (q_X7_card σ a b d f nB nC) (fun σ' => x_U D cs base ad n st σ') (x_A base)) ([.ref (ad 7 0), .int a, .int b, .int d, .int f] : List Value).toArray s 0 0 (x_A base)) (F0 m 0 ls [])
  refine lv_aload_n hx hb dX7_card_0 rfl (lv_at hl 0 rfl) ?_
  refine lv_iconst (v := 0) hx hb dX7_card_1 (by decide) ?_
  refine xp_i hc hw 7 0 0 rfl rfl rfl rfl (by decide) (h7) rfl (ty := .int) (by decide +kernel) rfl rfl mw_687 dX7_card_2 (fun H locs hw => ?_)
  have cut_53 : ∀ (z : Int32), (z = if ((1 ≤ a ∧ a ≤ 3) ∧ (b = 2 ∨ b = 4) ∧ (0 ≤ d ∧ d ≤ 9) ∧ 0 ≤ f ∧ f ≤ 8) then 1 else 0) → ∀ (H : Heap) (locs : List Loc) (ls : Array Slot), lv_has ls 11 [(0, .ref (ad 7 0)), (1, .int a), (2, .int b), (3, .int d), (4, .int f)] → x_B D cs base ad n st (x_up σ 7 0 0 0) s H locs → W p l e (x_rm 4 0 0) s m ([.ref (ad 7 0), .int a, .int b, .int d, .int f] : List Value).toArray below meth c H locs 0 0 (MQ below (va_Qi (q_X7_card σ a b d f nB nC) (fun σ' => x_U D cs base ad n st σ') (x_A base)) ([.ref (ad 7 0), .int a, .int b, .int d, .int f] : List Value).toArray s 0 0 (x_A base)) (F0 m 53 ls [.int z, .ref (ad 7 0)]) := by
    intro z hf H locs ls hl hw
    refine lv_iconst (v := 1) hx hb dX7_card_53 (by decide) ?_
    refine xc_Vi hc hw 7 0 (c_X7_right z 1 h7 hm) rfl rfl (h7) mw_834 mw_831 mw_4 mw_833 mp_20 xd_X7_right ⟨by decide, by decide⟩ (rfl) hl.1 (Nat.le_of_ble_eq_true rfl) dX7_card_54 ⟨Nat.le_of_ble_eq_true rfl, Nat.le_of_ble_eq_true rfl⟩ (fun r_54 σ_54 H locs hq hw => ?_)
    have hq_54 := hq
    obtain ⟨hr_54, hσ_54⟩ := x_right hq_54 x_up_s hf (by decide)
    rw [x_up_up] at hσ_54
    refine lv_if_ne (tgt := 62) hx hb dX7_card_57 (by decide) (fun c_57 => ?_) (fun c_57 => ?_)
    · have hP := x_if1 hr_54 c_57
      rw [if_pos hP] at hσ_54
      have hB1 : σ_54 7 0 2 = nI nB := (by rw [hσ_54]; simpa [x_up] using hB)
      have hC1 : σ_54 7 0 3 = nI nC := (by rw [hσ_54]; simpa [x_up] using hC)
      refine lv_aload_n hx hb dX7_card_62 rfl (lv_at hl 0 rfl) ?_
      refine xg_i hc hw 7 0 3 rfl rfl rfl rfl (by decide) (h7) mw_690 dX7_card_63 ?_
      refine lv_bipush (v := 30) hx hb dX7_card_66 (by decide) ?_
      refine lv_icmp_ne (tgt := 73) hx hb dX7_card_68 (by decide) (fun c_68 => ?_) (fun c_68 => ?_)
      · have hC9 : nC < 30 := x_lt30 hC1 hC0 c_68
        refine lv_iconst (v := (-1)) hx hb dX7_card_73 (by decide) ?_
        refine lv_istore (lv' := [(5, .int (-1)), (0, .ref (ad 7 0)), (1, .int a), (2, .int b), (3, .int d), (4, .int f)]) hx hb dX7_card_74 hl (by decide) rfl (fun ls hl => ?_)
        refine lv_iconst (v := 0) hx hb dX7_card_76 (by decide) ?_
        refine lv_istore (lv' := [(6, .int 0), (5, .int (-1)), (0, .ref (ad 7 0)), (1, .int a), (2, .int b), (3, .int d), (4, .int f)]) hx hb dX7_card_77 hl (by decide) rfl (fun ls hl => ?_)
        refine lv_iconst (v := 1) hx hb dX7_card_79 (by decide) ?_
        refine lv_istore (lv' := [(7, .int 1), (6, .int 0), (5, .int (-1)), (0, .ref (ad 7 0)), (1, .int a), (2, .int b), (3, .int d), (4, .int f)]) hx hb dX7_card_80 hl (by decide) rfl (fun ls hl => ?_)
        have cut_82 : ∀ (N : Nat) (tt : Nat) (x5 : Int32) (x6 : Int32) (x7 : Int32), (1 ≤ tt ∧ tt ≤ 10) → (x7 = nI tt) → (m_ft σ_54 a b d f nB (10 - tt) tt x5 x6 = m_ft σ_54 a b d f nB 9 1 (-1) 0) → (10 - tt < N) → ∀ (H : Heap) (locs : List Loc) (ls : Array Slot), lv_has ls 11 [(0, .ref (ad 7 0)), (1, .int a), (2, .int b), (3, .int d), (4, .int f), (5, .int x5), (6, .int x6), (7, .int x7)] → x_B D cs base ad n st σ_54 s H locs → W p l e (x_rm 4 0 0) s m ([.ref (ad 7 0), .int a, .int b, .int d, .int f] : List Value).toArray below meth c H locs 0 0 (MQ below (va_Qi (q_X7_card σ a b d f nB nC) (fun σ' => x_U D cs base ad n st σ') (x_A base)) ([.ref (ad 7 0), .int a, .int b, .int d, .int f] : List Value).toArray s 0 0 (x_A base)) (F0 m 82 ls []) := by
          intro N
          induction N with
          | zero => intro tt x5 x6 x7 htt h7a hI hN; exact absurd hN (Nat.not_lt_zero _)
          | succ N ih_82 =>
            intro tt x5 x6 x7 htt h7a hI hN H locs ls hl hw
            refine lv_iload hx hb dX7_card_82 (lv_at hl 7 rfl) ?_
            refine lv_bipush (v := 9) hx hb dX7_card_84 (by decide) ?_
            refine lv_icmp_gt (tgt := 181) hx hb dX7_card_86 (by decide) (fun c_86 => ?_) (fun c_86 => ?_)
            · have hz9 : ¬ tt ≤ 9 := (fun q => absurd (nI_le q (by decide)) (Int32.not_le.mpr (by rw [← h7a]; exact c_86)))
              rw [show 10 - tt = 0 by omega, m_ft] at hI
              refine lv_iload hx hb dX7_card_181 (lv_at hl 5 rfl) ?_
              refine lv_iconst (v := (-1)) hx hb dX7_card_183 (by decide) ?_
              refine lv_icmp_ne (tgt := 189) hx hb dX7_card_184 (by decide) (fun c_184 => ?_) (fun c_184 => ?_)
              · obtain ⟨b0, hb0, hb1, hb2⟩ := m_ft_ok σ_54 a b d f nB 9 1 (-1) 0 (Or.inl rfl) (by rw [← hI]; exact c_184)
                rw [← hI] at hb1 hb2
                dsimp only at hb1 hb2
                have hcb : x_c x5 = b0 := (by rw [hb1]; exact x_cn (by omega))
                refine lv_iconst (v := 0) hx hb dX7_card_189 (by decide) ?_
                refine lv_istore (lv' := [(7, .int 0), (0, .ref (ad 7 0)), (1, .int a), (2, .int b), (3, .int d), (4, .int f), (5, .int x5), (6, .int x6)]) hx hb dX7_card_190 hl (by decide) rfl (fun ls hl => ?_)
                refine lv_iload hx hb dX7_card_192 (lv_at hl 6 rfl) ?_
                refine lv_istore (lv' := [(8, .int x5), (7, .int 0), (0, .ref (ad 7 0)), (1, .int a), (2, .int b), (3, .int d), (4, .int f), (5, .int x5), (6, .int x6)]) hx hb dX7_card_194 hl (by decide) rfl (fun ls hl => ?_)
                have cut_196 : ∀ (N : Nat) (b3 : Nat) (n3 : Nat) (x7b : Int32) (x8b : Int32) (σc : x_St), (b3 ≤ nB) → (n3 ≤ 12) → (x7b = nI n3) → (x8b = nI b3) → (σc 7 0 3 = nI nC) → (12 ≤ n3 + m_fr σc a b d x6 f (nB - b3) b3) → (m_cs a b d x6 f nC (nB - b3) b3 n3 σc = m_cs a b d x6 f nC (nB - b0) b0 0 σ_54) → (nB - b3 < N) → ∀ (H : Heap) (locs : List Loc) (ls : Array Slot), lv_has ls 11 [(0, .ref (ad 7 0)), (1, .int a), (2, .int b), (3, .int d), (4, .int f), (5, .int x5), (6, .int x6), (7, .int x7b), (8, .int x8b)] → x_B D cs base ad n st σc s H locs → W p l e (x_rm 4 0 0) s m ([.ref (ad 7 0), .int a, .int b, .int d, .int f] : List Value).toArray below meth c H locs 0 0 (MQ below (va_Qi (q_X7_card σ a b d f nB nC) (fun σ' => x_U D cs base ad n st σ') (x_A base)) ([.ref (ad 7 0), .int a, .int b, .int d, .int f] : List Value).toArray s 0 0 (x_A base)) (F0 m 196 ls []) := by
                  intro N
                  induction N with
                  | zero => intro b3 n3 x7b x8b σc hb3 hn3 h7c h8c hC3 hrem hK hN; exact absurd hN (Nat.not_lt_zero _)
                  | succ N ih_196 =>
                    intro b3 n3 x7b x8b σc hb3 hn3 h7c h8c hC3 hrem hK hN H locs ls hl hw
                    refine lv_iload hx hb dX7_card_196 (lv_at hl 7 rfl) ?_
                    refine lv_bipush (v := 12) hx hb dX7_card_198 (by decide) ?_
                    refine lv_icmp_ge (tgt := 267) hx hb dX7_card_200 (by decide) (fun c_200 => ?_) (fun c_200 => ?_)
                    · refine lv_aload_n hx hb dX7_card_267 rfl (lv_at hl 0 rfl) ?_
                      refine xg_r hc hw 7 0 25 rfl rfl rfl rfl (by decide) (h7) ((hm 55 (by decide) (by decide)).2) mw_712 dX7_card_268 ?_
                      refine lv_aload_n hx hb dX7_card_271 rfl (lv_at hl 0 rfl) ?_
                      refine xg_i hc hw 7 0 3 rfl rfl rfl rfl (by decide) (h7) mw_690 dX7_card_272 ?_
                      refine lv_iload_n hx hb dX7_card_275 rfl (lv_at hl 1 rfl) ?_
                      refine xa_st hc hw 55 0 nC rfl ((hm 55 (by decide) (by decide)).1) (by simp [x_up, hC3]) (hC9) dX7_card_276 (fun H locs hw => ?_)
                      refine lv_aload_n hx hb dX7_card_277 rfl (lv_at hl 0 rfl) ?_
                      refine xg_r hc hw 7 0 26 rfl rfl rfl rfl (by decide) (h7) ((hm 56 (by decide) (by decide)).2) mw_713 dX7_card_278 ?_
                      refine lv_aload_n hx hb dX7_card_281 rfl (lv_at hl 0 rfl) ?_
                      refine xg_i hc hw 7 0 3 rfl rfl rfl rfl (by decide) (h7) mw_690 dX7_card_282 ?_
                      refine lv_iload_n hx hb dX7_card_285 rfl (lv_at hl 2 rfl) ?_
                      refine xa_st hc hw 56 0 nC rfl ((hm 56 (by decide) (by decide)).1) (by simp [x_up, hC3]) (hC9) dX7_card_286 (fun H locs hw => ?_)
                      refine lv_aload_n hx hb dX7_card_287 rfl (lv_at hl 0 rfl) ?_
                      refine xg_r hc hw 7 0 27 rfl rfl rfl rfl (by decide) (h7) ((hm 57 (by decide) (by decide)).2) mw_714 dX7_card_288 ?_
                      refine lv_aload_n hx hb dX7_card_291 rfl (lv_at hl 0 rfl) ?_
                      refine xg_i hc hw 7 0 3 rfl rfl rfl rfl (by decide) (h7) mw_690 dX7_card_292 ?_
                      refine lv_iload_n hx hb dX7_card_295 rfl (lv_at hl 3 rfl) ?_
                      refine xa_st hc hw 57 0 nC rfl ((hm 57 (by decide) (by decide)).1) (by simp [x_up, hC3]) (hC9) dX7_card_296 (fun H locs hw => ?_)
                      refine lv_aload_n hx hb dX7_card_297 rfl (lv_at hl 0 rfl) ?_
                      refine xg_r hc hw 7 0 28 rfl rfl rfl rfl (by decide) (h7) ((hm 58 (by decide) (by decide)).2) mw_715 dX7_card_298 ?_
                      refine lv_aload_n hx hb dX7_card_301 rfl (lv_at hl 0 rfl) ?_
                      refine xg_i hc hw 7 0 3 rfl rfl rfl rfl (by decide) (h7) mw_690 dX7_card_302 ?_
                      refine lv_iconst (v := (-1)) hx hb dX7_card_305 (by decide) ?_
                      refine xa_st hc hw 58 0 nC rfl ((hm 58 (by decide) (by decide)).1) (by simp [x_up, hC3]) (hC9) dX7_card_306 (fun H locs hw => ?_)
                      refine lv_aload_n hx hb dX7_card_307 rfl (lv_at hl 0 rfl) ?_
                      refine lv_dup hx hb dX7_card_308 rfl ?_
                      refine xg_i hc hw 7 0 3 rfl rfl rfl rfl (by decide) (h7) mw_690 dX7_card_309 ?_
                      refine lv_iconst (v := 1) hx hb dX7_card_312 (by decide) ?_
                      refine lv_iadd hx hb dX7_card_313 ?_
                      refine xp_i hc hw 7 0 3 rfl rfl rfl rfl (by decide) (h7) rfl (ty := .int) (by decide +kernel) rfl rfl mw_690 dX7_card_314 (fun H locs hw => ?_)
                      refine lv_aload_n hx hb dX7_card_317 rfl (lv_at hl 0 rfl) ?_
                      refine xg_i hc hw 7 0 3 rfl rfl rfl rfl (by decide) (h7) mw_690 dX7_card_318 ?_
                      refine lv_iconst (v := 1) hx hb dX7_card_321 (by decide) ?_
                      refine lv_isub hx hb dX7_card_322 ?_
                      exact xr_i hc hlocks hr rfl hw (⟨fun _ => by have hn := x_ge h7c (b := 12) rfl (by omega) (by decide) c_200; rw [show n3 = 12 by omega, m_cs_12] at hK; rw [← hσ_54, m_card, if_neg (by omega), if_neg (by rw [← hI]; exact c_184), ← hI]; dsimp only; rw [hcb, ← hK]; exact ⟨by simp [x_up, hC3, x_p1], by simp [m_cd, x_up, hC3, nI_1]⟩, fun h => absurd hP h⟩) (Nat.le_of_ble_eq_true rfl) (Nat.le_of_ble_eq_true rfl) dX7_card_323
                    · have hn12 : n3 < 12 := x_nge h7c (b := 12) rfl (by omega) (by decide) c_200
                      have hlb : b3 < nB := Nat.lt_of_not_le (fun q => by rw [show nB - b3 = 0 by omega, m_fr] at hrem; omega)
                      have hst3 : nB - b3 = (nB - (b3 + 1)) + 1 := by omega
                      rw [hst3, m_fr] at hrem
                      rw [hst3, m_cs, if_neg (by omega)] at hK
                      have cut_261 : ∀ (n4 : Nat) (y7 : Int32) (σd : x_St), (n4 ≤ 12) → (y7 = nI n4) → (σd 7 0 3 = nI nC) → (12 ≤ n4 + m_fr σd a b d x6 f (nB - (b3 + 1)) (b3 + 1)) → (m_cs a b d x6 f nC (nB - (b3 + 1)) (b3 + 1) n4 σd = m_cs a b d x6 f nC (nB - b0) b0 0 σ_54) → ∀ (H : Heap) (locs : List Loc) (ls : Array Slot), lv_has ls 11 [(0, .ref (ad 7 0)), (1, .int a), (2, .int b), (3, .int d), (4, .int f), (5, .int x5), (6, .int x6), (7, .int y7), (8, .int x8b)] → x_B D cs base ad n st σd s H locs → W p l e (x_rm 4 0 0) s m ([.ref (ad 7 0), .int a, .int b, .int d, .int f] : List Value).toArray below meth c H locs 0 0 (MQ below (va_Qi (q_X7_card σ a b d f nB nC) (fun σ' => x_U D cs base ad n st σ') (x_A base)) ([.ref (ad 7 0), .int a, .int b, .int d, .int f] : List Value).toArray s 0 0 (x_A base)) (F0 m 261 ls []) := by
                        intro n4 y7 σd hn4 h7d hCd hrd hKd H locs ls hl hw
                        obtain ⟨x8_261, ex8_261⟩ : ∃ y : Int32, y = x8b + 1 := ⟨_, rfl⟩
                        refine lv_iinc (v := x8_261) (lv' := [(8, .int x8_261), (0, .ref (ad 7 0)), (1, .int a), (2, .int b), (3, .int d), (4, .int f), (5, .int x5), (6, .int x6), (7, .int y7)]) hx hb dX7_card_261 hl (k := 8) rfl (by rw [ex8_261]; rfl) (by decide) rfl (fun ls hl => ?_)
                        refine lv_goto (tgt := 196) hx hb dX7_card_264 (by decide) ?_
                        exact ih_196 (b3 + 1) n4 _ _ _ (by omega) (hn4) (h7d) (by rw [ex8_261, h8c, nI_1]) (hCd) (hrd) (hKd) (by omega) _ _ _ (lv_sub hl [1, 2, 3, 4, 5, 6, 7, 8, 0] rfl) hw
                      refine lv_aload_n hx hb dX7_card_203 rfl (lv_at hl 0 rfl) ?_
                      refine lv_iload hx hb dX7_card_204 (lv_at hl 8 rfl) ?_
                      refine lv_iload_n hx hb dX7_card_206 rfl (lv_at hl 1 rfl) ?_
                      refine lv_iload_n hx hb dX7_card_207 rfl (lv_at hl 2 rfl) ?_
                      refine lv_iload_n hx hb dX7_card_208 rfl (lv_at hl 3 rfl) ?_
                      refine lv_iload hx hb dX7_card_209 (lv_at hl 6 rfl) ?_
                      refine lv_iload hx hb dX7_card_211 (lv_at hl 4 rfl) ?_
                      refine xc_Vi hc hw 7 0 (c_X7_fits b3 a b d x6 f (by omega) h7 hm) rfl rfl (h7) mw_919 mw_916 mw_4 mw_918 mp_29 xd_X7_fits ⟨by decide, by decide⟩ (by rw [h8c]; rfl) hl.1 (Nat.le_of_ble_eq_true rfl) dX7_card_213 ⟨Nat.le_of_ble_eq_true rfl, Nat.le_of_ble_eq_true rfl⟩ (fun r_213 σ_213 H locs hq hw => ?_)
                      obtain ⟨hσ_213, hr_213⟩ := hq
                      rw [hσ_213] at hw
                      refine lv_if_ne (tgt := 222) hx hb dX7_card_216 (by decide) (fun c_216 => ?_) (fun c_216 => ?_)
                      · have hF := x_if1 hr_213 c_216
                        rw [if_pos hF] at hK hrem
                        refine lv_aload_n hx hb dX7_card_222 rfl (lv_at hl 0 rfl) ?_
                        refine xg_r hc hw 7 0 16 rfl rfl rfl rfl (by decide) (h7) ((hm 46 (by decide) (by decide)).2) mw_703 dX7_card_223 ?_
                        refine lv_iload hx hb dX7_card_226 (lv_at hl 8 rfl) ?_
                        refine lv_iconst (v := 4) hx hb dX7_card_228 (by decide) ?_
                        refine xa_st hc hw 46 0 b3 rfl ((hm 46 (by decide) (by decide)).1) (h8c) (by show _ < 400; omega) dX7_card_229 (fun H locs hw => ?_)
                        refine lv_aload_n hx hb dX7_card_230 rfl (lv_at hl 0 rfl) ?_
                        refine xg_r hc hw 7 0 19 rfl rfl rfl rfl (by decide) (h7) ((hm 49 (by decide) (by decide)).2) mw_706 dX7_card_231 ?_
                        refine lv_iload hx hb dX7_card_234 (lv_at hl 8 rfl) ?_
                        refine lv_aload_n hx hb dX7_card_236 rfl (lv_at hl 0 rfl) ?_
                        refine xg_i hc hw 7 0 3 rfl rfl rfl rfl (by decide) (h7) mw_690 dX7_card_237 ?_
                        refine xa_st hc hw 49 0 b3 rfl ((hm 49 (by decide) (by decide)).1) (h8c) (by show _ < 400; omega) dX7_card_240 (fun H locs hw => ?_)
                        refine lv_aload_n hx hb dX7_card_241 rfl (lv_at hl 0 rfl) ?_
                        refine xg_r hc hw 7 0 29 rfl rfl rfl rfl (by decide) (h7) ((hm 59 (by decide) (by decide)).2) mw_716 dX7_card_242 ?_
                        refine lv_bipush (v := 12) hx hb dX7_card_245 (by decide) ?_
                        refine lv_aload_n hx hb dX7_card_247 rfl (lv_at hl 0 rfl) ?_
                        refine xg_i hc hw 7 0 3 rfl rfl rfl rfl (by decide) (h7) mw_690 dX7_card_248 ?_
                        refine lv_imul hx hb dX7_card_251 ?_
                        refine lv_iload hx hb dX7_card_252 (lv_at hl 7 rfl) ?_
                        refine lv_iadd hx hb dX7_card_254 ?_
                        refine lv_iload hx hb dX7_card_255 (lv_at hl 8 rfl) ?_
                        refine xa_st hc hw 59 0 (12 * nC + n3) rfl ((hm 59 (by decide) (by decide)).1) (by simp only [x_up_n3, hC3]; rw [h7c, show (12 : Int32) = nI 12 from rfl, pk_mul, nI_add]) (by show _ < 360; omega) dX7_card_257 (fun H locs hw => ?_)
                        obtain ⟨x7_258, ex7_258⟩ : ∃ y : Int32, y = x7b + 1 := ⟨_, rfl⟩
                        refine lv_iinc (v := x7_258) (lv' := [(7, .int x7_258), (0, .ref (ad 7 0)), (1, .int a), (2, .int b), (3, .int d), (4, .int f), (5, .int x5), (6, .int x6), (8, .int x8b)]) hx hb dX7_card_258 hl (k := 7) rfl (by rw [ex7_258]; rfl) (by decide) rfl (fun ls hl => ?_)
                        exact cut_261 (n3 + 1) _ _ (by omega) (by rw [ex7_258, h7c, nI_1]) (by simpa [x_up] using hC3) (by rw [m_fr_up _ _ _ _ _ _ _ _ _ _ _ (show b3 < b3 + 1 by omega)]; omega) (by simp only [x_up_n2, hC3]; rw [h8c]; exact hK) _ _ _ (lv_sub hl [1, 2, 3, 4, 5, 6, 7, 0, 8] rfl) hw
                      · refine lv_goto (tgt := 261) hx hb dX7_card_219 (by decide) ?_
                        exact cut_261 n3 _ _ (hn3) (h7c) (hC3) (by rw [if_neg (x_if0 hr_213 c_216)] at hrem; omega) (by rw [if_neg (x_if0 hr_213 c_216)] at hK; exact hK) _ _ _ (lv_sub hl [0, 1, 2, 3, 4, 5, 6, 7, 8] rfl) hw
                exact cut_196 _ b0 0 _ _ _ (by omega) (by decide) (rfl) (hb1) (hC1) (by omega) (rfl) (Nat.lt_succ_self _) _ _ _ (lv_sub hl [2, 3, 4, 5, 6, 7, 8, 1, 0] rfl) hw
              · refine lv_iconst (v := (-1)) hx hb dX7_card_187 (by decide) ?_
                exact xr_i hc hlocks hr rfl hw (⟨fun _ => by rw [← hσ_54, m_card, if_neg (by omega), if_pos (by rw [← hI]; exact c_184)]; exact ⟨rfl, rfl⟩, fun h => absurd hP h⟩) (Nat.le_of_ble_eq_true rfl) (Nat.le_of_ble_eq_true rfl) dX7_card_188
            · have ht9 : tt ≤ 9 := x_ngt h7a (b := 9) rfl (by omega) (by decide) c_86
              have hst : 10 - tt = (10 - (tt + 1)) + 1 := by omega
              rw [hst, m_ft] at hI
              refine lv_iconst (v := 0) hx hb dX7_card_89 (by decide) ?_
              refine lv_istore (lv' := [(8, .int 0), (0, .ref (ad 7 0)), (1, .int a), (2, .int b), (3, .int d), (4, .int f), (5, .int x5), (6, .int x6), (7, .int x7)]) hx hb dX7_card_90 hl (by decide) rfl (fun ls hl => ?_)
              refine lv_iconst (v := (-1)) hx hb dX7_card_92 (by decide) ?_
              refine lv_istore (lv' := [(9, .int (-1)), (8, .int 0), (0, .ref (ad 7 0)), (1, .int a), (2, .int b), (3, .int d), (4, .int f), (5, .int x5), (6, .int x6), (7, .int x7)]) hx hb dX7_card_93 hl (by decide) rfl (fun ls hl => ?_)
              refine lv_iconst (v := 0) hx hb dX7_card_95 (by decide) ?_
              refine lv_istore (lv' := [(10, .int 0), (9, .int (-1)), (8, .int 0), (0, .ref (ad 7 0)), (1, .int a), (2, .int b), (3, .int d), (4, .int f), (5, .int x5), (6, .int x6), (7, .int x7)]) hx hb dX7_card_96 hl (by decide) rfl (fun ls hl => ?_)
              have cut_98 : ∀ (N : Nat) (bb : Nat) (nn : Nat) (x8 : Int32) (x9 : Int32) (x10 : Int32), (bb ≤ nB) → (nn ≤ bb) → (x8 = nI nn) → (x10 = nI bb) → (m_fc σ_54 a b d (nI tt) f (nB - bb) bb nn x9 = m_fc σ_54 a b d (nI tt) f nB 0 0 (-1)) → (nB - bb < N) → ∀ (H : Heap) (locs : List Loc) (ls : Array Slot), lv_has ls 11 [(0, .ref (ad 7 0)), (1, .int a), (2, .int b), (3, .int d), (4, .int f), (5, .int x5), (6, .int x6), (7, .int x7), (8, .int x8), (9, .int x9), (10, .int x10)] → x_B D cs base ad n st σ_54 s H locs → W p l e (x_rm 4 0 0) s m ([.ref (ad 7 0), .int a, .int b, .int d, .int f] : List Value).toArray below meth c H locs 0 0 (MQ below (va_Qi (q_X7_card σ a b d f nB nC) (fun σ' => x_U D cs base ad n st σ') (x_A base)) ([.ref (ad 7 0), .int a, .int b, .int d, .int f] : List Value).toArray s 0 0 (x_A base)) (F0 m 98 ls []) := by
                intro N
                induction N with
                | zero => intro bb nn x8 x9 x10 hbb hnn h8 h10 hJ hN; exact absurd hN (Nat.not_lt_zero _)
                | succ N ih_98 =>
                  intro bb nn x8 x9 x10 hbb hnn h8 h10 hJ hN H locs ls hl hw
                  refine lv_iload hx hb dX7_card_98 (lv_at hl 10 rfl) ?_
                  refine lv_aload_n hx hb dX7_card_100 rfl (lv_at hl 0 rfl) ?_
                  refine xg_i hc hw 7 0 2 rfl rfl rfl rfl (by decide) (h7) mw_689 dX7_card_101 ?_
                  refine lv_icmp_ge (tgt := 144) hx hb dX7_card_104 (by decide) (fun c_104 => ?_) (fun c_104 => ?_)
                  · have hz := x_ge h10 hB1 (by omega) (by omega) c_104
                    rw [show nB - bb = 0 by omega, m_fc] at hJ
                    rw [← hJ] at hI
                    dsimp only at hI
                    have cut_175 : ∀ (y5 : Int32) (y6 : Int32), (m_ft σ_54 a b d f nB (10 - (tt + 1)) (tt + 1) y5 y6 = m_ft σ_54 a b d f nB 9 1 (-1) 0) → ∀ (H : Heap) (locs : List Loc) (ls : Array Slot), lv_has ls 11 [(0, .ref (ad 7 0)), (1, .int a), (2, .int b), (3, .int d), (4, .int f), (5, .int y5), (6, .int y6), (7, .int x7)] → x_B D cs base ad n st σ_54 s H locs → W p l e (x_rm 4 0 0) s m ([.ref (ad 7 0), .int a, .int b, .int d, .int f] : List Value).toArray below meth c H locs 0 0 (MQ below (va_Qi (q_X7_card σ a b d f nB nC) (fun σ' => x_U D cs base ad n st σ') (x_A base)) ([.ref (ad 7 0), .int a, .int b, .int d, .int f] : List Value).toArray s 0 0 (x_A base)) (F0 m 175 ls []) := by
                      intro y5 y6 hId H locs ls hl hw
                      obtain ⟨x7_175, ex7_175⟩ : ∃ y : Int32, y = x7 + 1 := ⟨_, rfl⟩
                      refine lv_iinc (v := x7_175) (lv' := [(7, .int x7_175), (0, .ref (ad 7 0)), (1, .int a), (2, .int b), (3, .int d), (4, .int f), (5, .int y5), (6, .int y6)]) hx hb dX7_card_175 hl (k := 7) rfl (by rw [ex7_175]; rfl) (by decide) rfl (fun ls hl => ?_)
                      refine lv_goto (tgt := 82) hx hb dX7_card_178 (by decide) ?_
                      exact ih_82 (tt + 1) _ _ _ (by omega) (by rw [ex7_175, h7a, nI_1]) (hId) (by omega) _ _ _ (lv_sub hl [1, 2, 3, 4, 5, 6, 7, 0] rfl) hw
                    refine lv_iload hx hb dX7_card_144 (lv_at hl 8 rfl) ?_
                    refine lv_bipush (v := 12) hx hb dX7_card_146 (by decide) ?_
                    refine lv_icmp_lt (tgt := 175) hx hb dX7_card_148 (by decide) (fun c_148 => ?_) (fun c_148 => ?_)
                    · exact cut_175 _ _ (by rw [if_pos (Or.inl (x_lt12 h8 (by omega) c_148))] at hI; exact hI) _ _ _ (lv_sub hl [0, 1, 2, 3, 4, 5, 6, 7] rfl) hw
                    · refine lv_iload hx hb dX7_card_151 (lv_at hl 5 rfl) ?_
                      refine lv_iconst (v := (-1)) hx hb dX7_card_153 (by decide) ?_
                      refine lv_icmp_eq (tgt := 167) hx hb dX7_card_154 (by decide) (fun c_154 => ?_) (fun c_154 => ?_)
                      · refine lv_iload hx hb dX7_card_167 (lv_at hl 9 rfl) ?_
                        refine lv_istore (lv' := [(5, .int x9), (0, .ref (ad 7 0)), (1, .int a), (2, .int b), (3, .int d), (4, .int f), (6, .int x6), (7, .int x7), (8, .int x8), (9, .int x9), (10, .int x10)]) hx hb dX7_card_169 hl (by decide) rfl (fun ls hl => ?_)
                        refine lv_iload hx hb dX7_card_171 (lv_at hl 7 rfl) ?_
                        refine lv_istore (lv' := [(6, .int x7), (5, .int x9), (0, .ref (ad 7 0)), (1, .int a), (2, .int b), (3, .int d), (4, .int f), (7, .int x7), (8, .int x8), (9, .int x9), (10, .int x10)]) hx hb dX7_card_173 hl (by decide) rfl (fun ls hl => ?_)
                        exact cut_175 _ _ (by rw [if_neg (fun q => q.elim (fun q => c_148 (x_lt12r h8 q)) (fun q => by first | exact q.1 c_154 | exact absurd c_161 (Int32.not_lt.mpr q.2)))] at hI; rw [h7a]; exact hI) _ _ _ (lv_sub hl [2, 3, 4, 5, 6, 1, 0, 7] rfl) hw
                      · refine lv_iload hx hb dX7_card_157 (lv_at hl 9 rfl) ?_
                        refine lv_iload hx hb dX7_card_159 (lv_at hl 5 rfl) ?_
                        refine lv_icmp_lt (tgt := 167) hx hb dX7_card_161 (by decide) (fun c_161 => ?_) (fun c_161 => ?_)
                        · refine lv_iload hx hb dX7_card_167 (lv_at hl 9 rfl) ?_
                          refine lv_istore (lv' := [(5, .int x9), (0, .ref (ad 7 0)), (1, .int a), (2, .int b), (3, .int d), (4, .int f), (6, .int x6), (7, .int x7), (8, .int x8), (9, .int x9), (10, .int x10)]) hx hb dX7_card_169 hl (by decide) rfl (fun ls hl => ?_)
                          refine lv_iload hx hb dX7_card_171 (lv_at hl 7 rfl) ?_
                          refine lv_istore (lv' := [(6, .int x7), (5, .int x9), (0, .ref (ad 7 0)), (1, .int a), (2, .int b), (3, .int d), (4, .int f), (7, .int x7), (8, .int x8), (9, .int x9), (10, .int x10)]) hx hb dX7_card_173 hl (by decide) rfl (fun ls hl => ?_)
                          exact cut_175 _ _ (by rw [if_neg (fun q => q.elim (fun q => c_148 (x_lt12r h8 q)) (fun q => by first | exact q.1 c_154 | exact absurd c_161 (Int32.not_lt.mpr q.2)))] at hI; rw [h7a]; exact hI) _ _ _ (lv_sub hl [2, 3, 4, 5, 6, 1, 0, 7] rfl) hw
                        · refine lv_goto (tgt := 175) hx hb dX7_card_164 (by decide) ?_
                          exact cut_175 _ _ (by rw [if_pos (Or.inr ⟨c_154, Int32.not_lt.mp c_161⟩)] at hI; exact hI) _ _ _ (lv_sub hl [0, 1, 2, 3, 4, 5, 6, 7] rfl) hw
                  · have hlt : bb < nB := x_nge h10 hB1 (by omega) (by omega) c_104
                    have hst2 : nB - bb = (nB - (bb + 1)) + 1 := by omega
                    rw [hst2, m_fc] at hJ
                    have cut_138 : ∀ (n2 : Nat) (y8 : Int32) (y9 : Int32), (n2 ≤ bb + 1) → (y8 = nI n2) → (m_fc σ_54 a b d (nI tt) f (nB - (bb + 1)) (bb + 1) n2 y9 = m_fc σ_54 a b d (nI tt) f nB 0 0 (-1)) → ∀ (H : Heap) (locs : List Loc) (ls : Array Slot), lv_has ls 11 [(0, .ref (ad 7 0)), (1, .int a), (2, .int b), (3, .int d), (4, .int f), (5, .int x5), (6, .int x6), (7, .int x7), (8, .int y8), (9, .int y9), (10, .int x10)] → x_B D cs base ad n st σ_54 s H locs → W p l e (x_rm 4 0 0) s m ([.ref (ad 7 0), .int a, .int b, .int d, .int f] : List Value).toArray below meth c H locs 0 0 (MQ below (va_Qi (q_X7_card σ a b d f nB nC) (fun σ' => x_U D cs base ad n st σ') (x_A base)) ([.ref (ad 7 0), .int a, .int b, .int d, .int f] : List Value).toArray s 0 0 (x_A base)) (F0 m 138 ls []) := by
                      intro n2 y8 y9 hn2 h8d hJd H locs ls hl hw
                      obtain ⟨x10_138, ex10_138⟩ : ∃ y : Int32, y = x10 + 1 := ⟨_, rfl⟩
                      refine lv_iinc (v := x10_138) (lv' := [(10, .int x10_138), (0, .ref (ad 7 0)), (1, .int a), (2, .int b), (3, .int d), (4, .int f), (5, .int x5), (6, .int x6), (7, .int x7), (8, .int y8), (9, .int y9)]) hx hb dX7_card_138 hl (k := 10) rfl (by rw [ex10_138]; rfl) (by decide) rfl (fun ls hl => ?_)
                      refine lv_goto (tgt := 98) hx hb dX7_card_141 (by decide) ?_
                      exact ih_98 (bb + 1) n2 _ _ _ (by omega) (hn2) (h8d) (by rw [ex10_138, h10, nI_1]) (hJd) (by omega) _ _ _ (lv_sub hl [1, 2, 3, 4, 5, 6, 7, 8, 9, 10, 0] rfl) hw
                    refine lv_aload_n hx hb dX7_card_107 rfl (lv_at hl 0 rfl) ?_
                    refine lv_iload hx hb dX7_card_108 (lv_at hl 10 rfl) ?_
                    refine lv_iload_n hx hb dX7_card_110 rfl (lv_at hl 1 rfl) ?_
                    refine lv_iload_n hx hb dX7_card_111 rfl (lv_at hl 2 rfl) ?_
                    refine lv_iload_n hx hb dX7_card_112 rfl (lv_at hl 3 rfl) ?_
                    refine lv_iload hx hb dX7_card_113 (lv_at hl 7 rfl) ?_
                    refine lv_iload hx hb dX7_card_115 (lv_at hl 4 rfl) ?_
                    refine xc_Vi hc hw 7 0 (c_X7_fits bb a b d (nI tt) f (by omega) h7 hm) rfl rfl (h7) mw_919 mw_916 mw_4 mw_918 mp_29 xd_X7_fits ⟨by decide, by decide⟩ (by rw [h10, h7a]; rfl) hl.1 (Nat.le_of_ble_eq_true rfl) dX7_card_117 ⟨Nat.le_of_ble_eq_true rfl, Nat.le_of_ble_eq_true rfl⟩ (fun r_117 σ_117 H locs hq hw => ?_)
                    obtain ⟨hσ_117, hr_117⟩ := hq
                    rw [hσ_117] at hw
                    refine lv_if_ne (tgt := 126) hx hb dX7_card_120 (by decide) (fun c_120 => ?_) (fun c_120 => ?_)
                    · have hF := x_if1 hr_117 c_120
                      rw [if_pos hF] at hJ
                      refine lv_iload hx hb dX7_card_126 (lv_at hl 8 rfl) ?_
                      refine lv_if_ne (tgt := 135) hx hb dX7_card_128 (by decide) (fun c_128 => ?_) (fun c_128 => ?_)
                      · obtain ⟨x8_135, ex8_135⟩ : ∃ y : Int32, y = x8 + 1 := ⟨_, rfl⟩
                        refine lv_iinc (v := x8_135) (lv' := [(8, .int x8_135), (0, .ref (ad 7 0)), (1, .int a), (2, .int b), (3, .int d), (4, .int f), (5, .int x5), (6, .int x6), (7, .int x7), (9, .int x9), (10, .int x10)]) hx hb dX7_card_135 hl (k := 8) rfl (by rw [ex8_135]; rfl) (by decide) rfl (fun ls hl => ?_)
                        exact cut_138 (nn + 1) _ _ (by omega) (by rw [ex8_135, h8, nI_1]) (by first | (rw [if_pos (x_nn0 h8 (by omega) c_128), ← h10] at hJ; exact hJ) | (rw [if_neg (x_nn1 h8 c_128)] at hJ; exact hJ)) _ _ _ (lv_sub hl [1, 2, 3, 4, 5, 6, 7, 8, 0, 9, 10] rfl) hw
                      · refine lv_iload hx hb dX7_card_131 (lv_at hl 10 rfl) ?_
                        refine lv_istore (lv' := [(9, .int x10), (0, .ref (ad 7 0)), (1, .int a), (2, .int b), (3, .int d), (4, .int f), (5, .int x5), (6, .int x6), (7, .int x7), (8, .int x8), (10, .int x10)]) hx hb dX7_card_133 hl (by decide) rfl (fun ls hl => ?_)
                        obtain ⟨x8_135, ex8_135⟩ : ∃ y : Int32, y = x8 + 1 := ⟨_, rfl⟩
                        refine lv_iinc (v := x8_135) (lv' := [(8, .int x8_135), (9, .int x10), (0, .ref (ad 7 0)), (1, .int a), (2, .int b), (3, .int d), (4, .int f), (5, .int x5), (6, .int x6), (7, .int x7), (10, .int x10)]) hx hb dX7_card_135 hl (k := 9) rfl (by rw [ex8_135]; rfl) (by decide) rfl (fun ls hl => ?_)
                        exact cut_138 (nn + 1) _ _ (by omega) (by rw [ex8_135, h8, nI_1]) (by first | (rw [if_pos (x_nn0 h8 (by omega) c_128), ← h10] at hJ; exact hJ) | (rw [if_neg (x_nn1 h8 c_128)] at hJ; exact hJ)) _ _ _ (lv_sub hl [2, 3, 4, 5, 6, 7, 8, 9, 0, 1, 10] rfl) hw
                    · refine lv_goto (tgt := 138) hx hb dX7_card_123 (by decide) ?_
                      exact cut_138 nn _ _ (by omega) (h8) (by rw [if_neg (x_if0 hr_117 c_120)] at hJ; exact hJ) _ _ _ (lv_sub hl [0, 1, 2, 3, 4, 5, 6, 7, 8, 9, 10] rfl) hw
              exact cut_98 _ 0 0 _ _ _ (Nat.zero_le _) (Nat.le_refl _) (rfl) (rfl) (rfl) (Nat.lt_succ_self _) _ _ _ (lv_sub hl [3, 4, 5, 6, 7, 8, 9, 10, 2, 1, 0] rfl) hw
        exact cut_82 _ 1 _ _ _ (by decide) (rfl) (rfl) (Nat.lt_succ_self _) _ _ _ (lv_sub hl [3, 4, 5, 6, 7, 2, 1, 0] rfl) hw
      · refine lv_iconst (v := (-1)) hx hb dX7_card_71 (by decide) ?_
        exact xr_i hc hlocks hr rfl hw (⟨fun _ => by rw [← hσ_54, m_card, if_pos (x_n30 (hC1.symm.trans c_68) hC0)]; exact ⟨rfl, rfl⟩, fun h => absurd hP h⟩) (Nat.le_of_ble_eq_true rfl) (Nat.le_of_ble_eq_true rfl) dX7_card_72
    · refine lv_iconst (v := 0) hx hb dX7_card_60 (by decide) ?_
      exact xr_i hc hlocks hr rfl hw (⟨fun h => absurd h (x_if0 hr_54 c_57), fun _ => by rw [hσ_54, if_neg (x_if0 hr_54 c_57)]⟩) (Nat.le_of_ble_eq_true rfl) (Nat.le_of_ble_eq_true rfl) dX7_card_61
  refine lv_aload_n hx hb dX7_card_5 rfl (lv_at hl 0 rfl) ?_
  refine lv_iload_n hx hb dX7_card_6 rfl (lv_at hl 1 rfl) ?_
  refine lv_iconst (v := 1) hx hb dX7_card_7 (by decide) ?_
  refine lv_icmp_lt (tgt := 52) hx hb dX7_card_8 (by decide) (fun c_8 => ?_) (fun c_8 => ?_)
  · refine lv_iconst (v := 0) hx hb dX7_card_52 (by decide) ?_
    exact cut_53 _ (by simp_all [← Int32.not_le]) _ _ _ (lv_sub hl [0, 1, 2, 3, 4] rfl) hw
  · refine lv_iload_n hx hb dX7_card_11 rfl (lv_at hl 1 rfl) ?_
    refine lv_iconst (v := 3) hx hb dX7_card_12 (by decide) ?_
    refine lv_icmp_gt (tgt := 52) hx hb dX7_card_13 (by decide) (fun c_13 => ?_) (fun c_13 => ?_)
    · refine lv_iconst (v := 0) hx hb dX7_card_52 (by decide) ?_
      exact cut_53 _ (by simp_all [← Int32.not_le]) _ _ _ (lv_sub hl [0, 1, 2, 3, 4] rfl) hw
    · refine lv_iload_n hx hb dX7_card_16 rfl (lv_at hl 2 rfl) ?_
      refine lv_iconst (v := 2) hx hb dX7_card_17 (by decide) ?_
      refine lv_icmp_eq (tgt := 26) hx hb dX7_card_18 (by decide) (fun c_18 => ?_) (fun c_18 => ?_)
      · refine lv_iload_n hx hb dX7_card_26 rfl (lv_at hl 3 rfl) ?_
        refine lv_if_lt (tgt := 52) hx hb dX7_card_27 (by decide) (fun c_27 => ?_) (fun c_27 => ?_)
        · refine lv_iconst (v := 0) hx hb dX7_card_52 (by decide) ?_
          exact cut_53 _ (by simp_all [← Int32.not_le]) _ _ _ (lv_sub hl [0, 1, 2, 3, 4] rfl) hw
        · refine lv_iload_n hx hb dX7_card_30 rfl (lv_at hl 3 rfl) ?_
          refine lv_bipush (v := 9) hx hb dX7_card_31 (by decide) ?_
          refine lv_icmp_gt (tgt := 52) hx hb dX7_card_33 (by decide) (fun c_33 => ?_) (fun c_33 => ?_)
          · refine lv_iconst (v := 0) hx hb dX7_card_52 (by decide) ?_
            exact cut_53 _ (by simp_all [← Int32.not_le]) _ _ _ (lv_sub hl [0, 1, 2, 3, 4] rfl) hw
          · refine lv_iload hx hb dX7_card_36 (lv_at hl 4 rfl) ?_
            refine lv_if_lt (tgt := 52) hx hb dX7_card_38 (by decide) (fun c_38 => ?_) (fun c_38 => ?_)
            · refine lv_iconst (v := 0) hx hb dX7_card_52 (by decide) ?_
              exact cut_53 _ (by simp_all [← Int32.not_le]) _ _ _ (lv_sub hl [0, 1, 2, 3, 4] rfl) hw
            · refine lv_iload hx hb dX7_card_41 (lv_at hl 4 rfl) ?_
              refine lv_bipush (v := 8) hx hb dX7_card_43 (by decide) ?_
              refine lv_icmp_gt (tgt := 52) hx hb dX7_card_45 (by decide) (fun c_45 => ?_) (fun c_45 => ?_)
              · refine lv_iconst (v := 0) hx hb dX7_card_52 (by decide) ?_
                exact cut_53 _ (by simp_all [← Int32.not_le]) _ _ _ (lv_sub hl [0, 1, 2, 3, 4] rfl) hw
              · refine lv_iconst (v := 1) hx hb dX7_card_48 (by decide) ?_
                refine lv_goto (tgt := 53) hx hb dX7_card_49 (by decide) ?_
                exact cut_53 _ (by simp_all [← Int32.not_le]) _ _ _ (lv_sub hl [0, 1, 2, 3, 4] rfl) hw
      · refine lv_iload_n hx hb dX7_card_21 rfl (lv_at hl 2 rfl) ?_
        refine lv_iconst (v := 4) hx hb dX7_card_22 (by decide) ?_
        refine lv_icmp_ne (tgt := 52) hx hb dX7_card_23 (by decide) (fun c_23 => ?_) (fun c_23 => ?_)
        · refine lv_iconst (v := 0) hx hb dX7_card_52 (by decide) ?_
          exact cut_53 _ (by simp_all [← Int32.not_le]) _ _ _ (lv_sub hl [0, 1, 2, 3, 4] rfl) hw
        · refine lv_iload_n hx hb dX7_card_26 rfl (lv_at hl 3 rfl) ?_
          refine lv_if_lt (tgt := 52) hx hb dX7_card_27 (by decide) (fun c_27 => ?_) (fun c_27 => ?_)
          · refine lv_iconst (v := 0) hx hb dX7_card_52 (by decide) ?_
            exact cut_53 _ (by simp_all [← Int32.not_le]) _ _ _ (lv_sub hl [0, 1, 2, 3, 4] rfl) hw
          · refine lv_iload_n hx hb dX7_card_30 rfl (lv_at hl 3 rfl) ?_
            refine lv_bipush (v := 9) hx hb dX7_card_31 (by decide) ?_
            refine lv_icmp_gt (tgt := 52) hx hb dX7_card_33 (by decide) (fun c_33 => ?_) (fun c_33 => ?_)
            · refine lv_iconst (v := 0) hx hb dX7_card_52 (by decide) ?_
              exact cut_53 _ (by simp_all [← Int32.not_le]) _ _ _ (lv_sub hl [0, 1, 2, 3, 4] rfl) hw
            · refine lv_iload hx hb dX7_card_36 (lv_at hl 4 rfl) ?_
              refine lv_if_lt (tgt := 52) hx hb dX7_card_38 (by decide) (fun c_38 => ?_) (fun c_38 => ?_)
              · refine lv_iconst (v := 0) hx hb dX7_card_52 (by decide) ?_
                exact cut_53 _ (by simp_all [← Int32.not_le]) _ _ _ (lv_sub hl [0, 1, 2, 3, 4] rfl) hw
              · refine lv_iload hx hb dX7_card_41 (lv_at hl 4 rfl) ?_
                refine lv_bipush (v := 8) hx hb dX7_card_43 (by decide) ?_
                refine lv_icmp_gt (tgt := 52) hx hb dX7_card_45 (by decide) (fun c_45 => ?_) (fun c_45 => ?_)
                · refine lv_iconst (v := 0) hx hb dX7_card_52 (by decide) ?_
                  exact cut_53 _ (by simp_all [← Int32.not_le]) _ _ _ (lv_sub hl [0, 1, 2, 3, 4] rfl) hw
                · refine lv_iconst (v := 1) hx hb dX7_card_48 (by decide) ?_
                  refine lv_goto (tgt := 53) hx hb dX7_card_49 (by decide) ?_
                  exact cut_53 _ (by simp_all [← Int32.not_le]) _ _ _ (lv_sub hl [0, 1, 2, 3, 4] rfl) hw
