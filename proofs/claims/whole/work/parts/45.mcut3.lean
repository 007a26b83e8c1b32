theorem x_4096b {p v : Nat} : 4096 * nI p + nI v = nI (4096 * p + v) := by
  rw [show (4096 : Int32) = nI 4096 from rfl, pk_mul, nI_add]
def m_mxf (g : Nat → Int32) : Nat → Nat → Int32 → Int32
  | 0, _, b => b
  | f + 1, z, b => m_mxf g f (z + 1) (if b < g z then g z else b)
def m_F (σ : x_St) (sh R C : Nat) : Nat → Nat → Int32
  | 0 => fun _ => 0
  | f + 1 => fun k => m_mxf (fun z => m_cF σ sh R C (R * C - (f + 1)) k z (m_F σ sh R C f)) 4 0 (-1000000)
def m_ch (g : Nat → Int32) (F : Int32) : Nat := if g 3 = F then 3 else if g 2 = F then 2 else if g 1 = F then 1 else 0
def m_chz (σ : x_St) (sh R C f kk : Nat) : Nat := m_ch (fun z => m_cF σ sh R C (R * C - (f + 1)) kk z (m_F σ sh R C f)) (m_F σ sh R C (f + 1) kk)
def m_wr (σ : x_St) (sh R C pl z : Nat) (τ : x_St) : x_St := if z = 0 then x_up τ 69 0 pl (nI z) else x_up (x_up (x_up τ 69 0 pl (nI z)) 7 0 40 (τ 7 0 40 + 1)) 7 0 41 (τ 7 0 41 + σ 41 0 (10 * z + x_c (m_th (m_G σ sh C) R C pl z)))
def m_fw (σ : x_St) (sh R C : Nat) : Nat → Nat → x_St → x_St
  | 0, _, τ => τ
  | f + 1, kk, τ => m_fw σ sh R C f ((m_tn C (R * C - (f + 1)) kk (m_chz σ sh R C f kk)).getD 0) (m_wr σ sh R C (R * C - (f + 1)) (m_chz σ sh R C f kk) τ)
theorem m_mxf_cong {g g' : Nat → Int32} : ∀ (f z : Nat) (b : Int32), (∀ q, q < z + f → g q = g' q) → m_mxf g f z b = m_mxf g' f z b
  | 0, _, _, _ => rfl
  | f + 1, z, b, h => by
    rw [m_mxf, m_mxf, h z (by omega)]
    exact m_mxf_cong f (z + 1) _ (fun q hq => h q (by omega))
theorem m_cF_cong {σ σd : x_St} {sh R C pl k z : Nat} {F F' : Nat → Int32} (h39 : ∀ b d, σd 39 b d = σ 39 b d) (h41 : ∀ b d, σd 41 b d = σ 41 b d) (hF : ∀ j, j < 4 ^ C → F j = F' j) (hk : k < 4 ^ C) (hC1 : 1 ≤ C) (hz : z ≤ 3) : m_cF σd sh R C pl k z F = m_cF σ sh R C pl k z F' := by
  have hG : m_G σd sh C = m_G σ sh C := by funext y x; exact h39 _ _
  have ht : m_t σd sh R C pl z = m_t σ sh R C pl z := by rw [m_t, m_t, hG]
  rw [m_cF, m_cF, ht, h41]
  by_cases h0 : m_t σ sh R C pl z = 0
  · rw [if_pos h0, if_pos h0]
  · rw [if_neg h0, if_neg h0]
    cases hv : m_tn C pl k z with
    | none => rfl
    | some v =>
      show F v + _ = F' v + _
      rw [hF v (m_tn_lt hv hk hC1 hz (m_t_fit h0))]
theorem m_F_step {σ σd : x_St} {sh R C pp q : Nat} (hpp : pp + 1 ≤ R * C) (hkd : ∀ a b d, a ≠ 68 → σd a b d = σ a b d) (hT : ∀ j, j < 4 ^ C → σd 68 0 (4096 * (pp + 1) + j) = m_F σ sh R C (R * C - (pp + 1)) j) (hq : q < 4 ^ C) (hC1 : 1 ≤ C) : m_mxf (fun z => m_cm σd sh R C pp q z) 4 0 (-1000000) = m_F σ sh R C (R * C - pp) q := by
  rw [show R * C - pp = (R * C - (pp + 1)) + 1 by omega, m_F, show R * C - (R * C - (pp + 1) + 1) = pp by omega]
  exact m_mxf_cong 4 0 _ (fun z hz => m_cF_cong (fun b d => hkd 39 b d (by decide)) (fun b d => hkd 41 b d (by decide)) hT hq hC1 (by omega))
theorem m_cm_eq {σ σe : x_St} {sh R C pp kk z : Nat} (hpl : pp < R * C) (hke : ∀ a b d, a ≠ 68 → a ≠ 69 → ¬ (a = 7 ∧ (d = 40 ∨ d = 41)) → σe a b d = σ a b d) (hT : ∀ j, j < 4 ^ C → σe 68 0 (4096 * (pp + 1) + j) = m_F σ sh R C (R * C - (pp + 1)) j) (hk : kk < 4 ^ C) (hC1 : 1 ≤ C) (hz : z ≤ 3) : m_cm σe sh R C pp kk z = m_cF σ sh R C pp kk z (m_F σ sh R C (R * C - (pp + 1))) :=
  m_cF_cong (fun b d => hke 39 b d (by decide) (by decide) (by simp)) (fun b d => hke 41 b d (by decide) (by decide) (by simp)) hT hk hC1 hz
theorem m_chz_eq {σ : x_St} {sh R C pp kk zz : Nat} (hpl : pp < R * C) (hz3 : zz ≤ 3) (hzF : m_cF σ sh R C pp kk zz (m_F σ sh R C (R * C - (pp + 1))) = m_F σ sh R C (R * C - pp) kk) (hno : ∀ y, zz < y → y ≤ 3 → ¬ m_cF σ sh R C pp kk y (m_F σ sh R C (R * C - (pp + 1))) = m_F σ sh R C (R * C - pp) kk) : m_chz σ sh R C (R * C - (pp + 1)) kk = zz := by
  have hs : R * C - (pp + 1) + 1 = R * C - pp := by omega
  have hs2 : R * C - (R * C - pp) = pp := by omega
  rw [m_chz, m_ch, hs, hs2]
  rcases (by omega : zz = 0 ∨ zz = 1 ∨ zz = 2 ∨ zz = 3) with rfl | rfl | rfl | rfl
  · rw [if_neg (hno 3 (by decide) (by decide)), if_neg (hno 2 (by decide) (by decide)), if_neg (hno 1 (by decide) (by decide))]
  · rw [if_neg (hno 3 (by decide) (by decide)), if_neg (hno 2 (by decide) (by decide)), if_pos hzF]
  · rw [if_neg (hno 3 (by decide) (by decide)), if_pos hzF]
  · rw [if_pos hzF]
theorem m_next {σ : x_St} {sh R C pp kk z : Nat} {F : Nat → Int32} (hz : z ≤ 3) (hC1 : 1 ≤ C) (hk : kk < 4 ^ C) (h : ¬ m_cF σ sh R C pp kk z F = -1000000) : ¬ m_t σ sh R C pp z = 0 ∧ ∃ kv, m_tn C pp kk z = some kv ∧ kv < 4 ^ C := by
  rw [m_cF] at h
  by_cases h0 : m_t σ sh R C pp z = 0
  · exact absurd (if_pos h0) h
  · refine ⟨h0, ?_⟩
    rw [if_neg h0] at h
    cases hv : m_tn C pp kk z with
    | none => rw [hv] at h; exact absurd rfl h
    | some v => exact ⟨v, rfl, m_tn_lt hv hk hC1 hz (m_t_fit h0)⟩

/-- X7_finds -/
def q_X7_finds (σ : x_St) (sh C R : Nat) : x_St → Prop := fun σ' => ∃ σ1 : x_St, (∀ a b d, a ≠ 68 → σ1 a b d = σ a b d) ∧ σ' = m_fw σ sh R C (R * C) 0 (x_up (x_up σ1 7 0 40 0) 7 0 41 0)
set_option maxHeartbeats 4000000 in
set_option maxRecDepth 100000 in
theorem c_X7_finds {l : Launch} {D : va_G} {cs : Nat → ClassId} {base : Nat} {ad : Nat → Nat → Nat} {n st : Nat → Nat} {σ : x_St} (sh C : Nat) (hsh : sh < 30) (hC : σ 37 0 sh = nI C) (hC1 : 1 ≤ C) (hC0 : C ≤ 6) (R : Nat) (hR : σ 36 0 sh = nI R) (hR0 : R ≤ 6) (hG : ∀ y x, y < R → x < C → ∃ t, t ≤ 9 ∧ m_G σ sh C y x = nI t) (hch : ∀ p k, p < R * C → k < 4 ^ C → ¬ m_F σ sh R C (R * C - p) k = -1000000 ∧ ∃ z, z ≤ 3 ∧ m_cF σ sh R C p k z (m_F σ sh R C (R * C - (p + 1))) = m_F σ sh R C (R * C - p) k) (h7 : 0 < n 7) (hm : ∀ k, 36 ≤ k → k < 70 → 0 < n k ∧ 0 < st (100 + k)) : x_Cv l yX7_finds cX7_finds 9 3 0 0 D cs base ad n st σ [.ref (ad 7 0), .int (nI sh)] (q_X7_finds σ sh C R) (fun σ' => x_U D cs base ad n st σ') := by
  refine Met.ofW (cc := cX7_finds) (maxL := 9) (ret := none) (by decide) rfl ?_
  intro p e s m args below meth c s₁ B hml hv
  obtain ⟨rfl, hU⟩ := hv
  have hx := B.exec
  have hb := B.bytes
  have hr := B.returns
  have hts := atoms_spec (ws := Cond.code yX7_finds cX7_finds 9 (none) :: Tw) B.pre
  have hown : s.vm.findClass RX7 = some m.cls := findClass_of_methodNamed B.named
  have hlocks := B.notSynchronized
  have hc : CallFix p m c cX7_finds 9 s (([.ref (ad 7 0), .int (nI sh)] : List Value).toArray) Tw RX7 := ⟨hx, hb, hml, hown, fun w hw => hts w (List.mem_cons_of_mem _ hw)⟩
  have hw := x_B.start hU
  have hl := lv_entry ([.ref (ad 7 0), .int (nI sh)]) (n := 9) (Nat.le_of_ble_eq_true rfl)
  rw [lg_entry_eq]
  generalize (lg_sl ([.ref (ad 7 0), .int (nI sh)]) ++ List.replicate (9 - (lg_sl ([.ref (ad 7 0), .int (nI sh)])).length) Slot.unset).toArray = ls at hl ⊢
  have hl : lv_has ls 9 [(0, .ref (ad 7 0)), (1, .int (nI sh))] := hl
  show W p l e (x_rm 3 0 0) s m ([.ref (ad 7 0), .int (nI sh)] : List Value).toArray below meth c s.heap [] 0 0 (MQ below (va_Qv (q_X7_finds σ sh C R) (fun σ' => x_U D cs base ad n st σ') (x_A base)) ([.ref (ad 7 0), .int (nI sh)] : List Value).toArray s 0 0 (x_A base)) (F0 m 0 ls [])
  have hN : R * C ≤ 36 := Nat.mul_le_mul hR0 hC0
  have h46 : 4 ^ C ≤ 4096 := m_46 hC0
  refine lv_aload_n hx hb dX7_finds_0 rfl (lv_at hl 0 rfl) ?_
  refine xg_r hc hw 7 0 6 rfl rfl rfl rfl (by decide) (h7) ((hm 36 (by decide) (by decide)).2) mw_693 dX7_finds_1 ?_
  refine lv_iload_n hx hb dX7_finds_4 rfl (lv_at hl 1 rfl) ?_
  refine xa_ld hc hw 36 0 sh rfl ((hm 36 (by decide) (by decide)).1) (rfl) (hsh) dX7_finds_5 ?_
  refine lv_aload_n hx hb dX7_finds_6 rfl (lv_at hl 0 rfl) ?_
  refine xg_r hc hw 7 0 7 rfl rfl rfl rfl (by decide) (h7) ((hm 37 (by decide) (by decide)).2) mw_694 dX7_finds_7 ?_
  refine lv_iload_n hx hb dX7_finds_10 rfl (lv_at hl 1 rfl) ?_
  refine xa_ld hc hw 37 0 sh rfl ((hm 37 (by decide) (by decide)).1) (rfl) (hsh) dX7_finds_11 ?_
  refine lv_imul hx hb dX7_finds_12 ?_
  refine lv_topi (fun x2_13 ex2_13 => ?_)
  refine lv_istore_n (lv' := [(2, .int x2_13), (0, .ref (ad 7 0)), (1, .int (nI sh))]) hx hb dX7_finds_13 rfl hl (by decide) rfl (fun ls hl => ?_)
  have h2 : x2_13 = nI (R * C) := (by rw [ex2_13, hR, hC, pk_mul])
  refine lv_iconst (v := 1) hx hb dX7_finds_14 (by decide) ?_
  refine lv_iconst (v := 2) hx hb dX7_finds_15 (by decide) ?_
  refine lv_aload_n hx hb dX7_finds_16 rfl (lv_at hl 1 rfl) ?_
  refine xg_r hc hw 7 0 7 rfl rfl rfl rfl (by decide) (h7) ((hm 37 (by decide) (by decide)).2) mw_694 dX7_finds_17 ?_
  refine lv_iload_n hx hb dX7_finds_20 rfl (lv_at hl 2 rfl) ?_
  refine xa_ld hc hw 37 0 sh rfl ((hm 37 (by decide) (by decide)).1) (rfl) (hsh) dX7_finds_21 ?_
  refine lv_imul hx hb dX7_finds_22 ?_
  refine lv_ishl hx hb dX7_finds_23 ?_
  refine lv_topi (fun x3_24 ex3_24 => ?_)
  refine lv_istore_n (lv' := [(3, .int x3_24), (2, .int x2_13), (0, .ref (ad 7 0)), (1, .int (nI sh))]) hx hb dX7_finds_24 rfl hl (by decide) rfl (fun ls hl => ?_)
  have h3 : x3_24 = nI (4 ^ C) := (by rw [ex3_24, hC]; exact bq_1 (by omega))
  refine lv_iconst (v := 0) hx hb dX7_finds_25 (by decide) ?_
  refine lv_istore (lv' := [(4, .int 0), (3, .int x3_24), (2, .int x2_13), (0, .ref (ad 7 0)), (1, .int (nI sh))]) hx hb dX7_finds_26 hl (by decide) rfl (fun ls hl => ?_)
  have cut_28 : ∀ (N : Nat) (q : Nat) (x4 : Int32) (σc : x_St), (q ≤ 4 ^ C) → (x4 = nI q) → (∀ a b d, a ≠ 68 → σc a b d = σ a b d) → (∀ j, j < q → σc 68 0 (4096 * (R * C) + j) = 0) → (4 ^ C - q < N) → ∀ (H : Heap) (locs : List Loc) (ls : Array Slot), lv_has ls 9 [(0, .ref (ad 7 0)), (1, .int (nI sh)), (2, .int x2_13), (3, .int x3_24), (4, .int x4)] → x_B D cs base ad n st σc s H locs → W p l e (x_rm 3 0 0) s m ([.ref (ad 7 0), .int (nI sh)] : List Value).toArray below meth c H locs 0 0 (MQ below (va_Qv (q_X7_finds σ sh C R) (fun σ' => x_U D cs base ad n st σ') (x_A base)) ([.ref (ad 7 0), .int (nI sh)] : List Value).toArray s 0 0 (x_A base)) (F0 m 28 ls []) := by
    intro N
    induction N with
    | zero => intro q x4 σc hq9 h4 hkc hTc hN; exact absurd hN (Nat.not_lt_zero _)
    | succ N ih_28 =>
      intro q x4 σc hq9 h4 hkc hTc hN H locs ls hl hw
      refine lv_iload hx hb dX7_finds_28 (lv_at hl 4 rfl) ?_
      refine lv_iload_n hx hb dX7_finds_30 rfl (lv_at hl 3 rfl) ?_
      refine lv_icmp_ge (tgt := 54) hx hb dX7_finds_31 (by decide) (fun c_31 => ?_) (fun c_31 => ?_)
      · have hqe := x_ge h4 h3 (by omega) (by omega) c_31
        refine lv_iload_n hx hb dX7_finds_54 rfl (lv_at hl 2 rfl) ?_
        refine lv_iconst (v := 1) hx hb dX7_finds_55 (by decide) ?_
        refine lv_isub hx hb dX7_finds_56 ?_
        refine lv_topi (fun x4_57 ex4_57 => ?_)
        refine lv_istore (lv' := [(4, .int x4_57), (0, .ref (ad 7 0)), (1, .int (nI sh)), (2, .int x2_13), (3, .int x3_24)]) hx hb dX7_finds_57 hl (by decide) rfl (fun ls hl => ?_)
        have cut_59 : ∀ (N : Nat) (pq : Nat) (x4 : Int32) (σc : x_St), (pq ≤ R * C) → (x4 = nI pq - 1) → (∀ a b d, a ≠ 68 → σc a b d = σ a b d) → (∀ q, pq ≤ q → q ≤ R * C → ∀ j, j < 4 ^ C → σc 68 0 (4096 * q + j) = m_F σ sh R C (R * C - q) j) → (pq < N) → ∀ (H : Heap) (locs : List Loc) (ls : Array Slot), lv_has ls 9 [(0, .ref (ad 7 0)), (1, .int (nI sh)), (2, .int x2_13), (3, .int x3_24), (4, .int x4)] → x_B D cs base ad n st σc s H locs → W p l e (x_rm 3 0 0) s m ([.ref (ad 7 0), .int (nI sh)] : List Value).toArray below meth c H locs 0 0 (MQ below (va_Qv (q_X7_finds σ sh C R) (fun σ' => x_U D cs base ad n st σ') (x_A base)) ([.ref (ad 7 0), .int (nI sh)] : List Value).toArray s 0 0 (x_A base)) (F0 m 59 ls []) := by
          intro N
          induction N with
          | zero => intro pq x4 σc hpq h4 hkc hTc hN; exact absurd hN (Nat.not_lt_zero _)
          | succ N ih_59 =>
            intro pq x4 σc hpq h4 hkc hTc hN H locs ls hl hw
            refine lv_iload hx hb dX7_finds_59 (lv_at hl 4 rfl) ?_
            refine lv_if_lt (tgt := 149) hx hb dX7_finds_61 (by decide) (fun c_61 => ?_) (fun c_61 => ?_)
            · have hz0 : pq = 0 := (by rcases Nat.eq_zero_or_pos pq with z | z; exact z; exact absurd c_61 (by obtain ⟨w, rfl⟩ : ∃ w, pq = w + 1 := ⟨pq - 1, by omega⟩; rw [h4, nI_pred]; exact nI_pos (by omega)))
              refine lv_aload_n hx hb dX7_finds_149 rfl (lv_at hl 0 rfl) ?_
              refine lv_iconst (v := 0) hx hb dX7_finds_150 (by decide) ?_
              refine xp_i hc hw 7 0 40 rfl rfl rfl rfl (by decide) (h7) rfl (ty := .int) (by decide +kernel) rfl rfl mw_727 dX7_finds_151 (fun H locs hw => ?_)
              refine lv_aload_n hx hb dX7_finds_154 rfl (lv_at hl 0 rfl) ?_
              refine lv_iconst (v := 0) hx hb dX7_finds_155 (by decide) ?_
              refine xp_i hc hw 7 0 41 rfl rfl rfl rfl (by decide) (h7) rfl (ty := .int) (by decide +kernel) rfl rfl mw_728 dX7_finds_156 (fun H locs hw => ?_)
              refine lv_iconst (v := 0) hx hb dX7_finds_159 (by decide) ?_
              refine lv_istore (lv' := [(4, .int 0), (0, .ref (ad 7 0)), (1, .int (nI sh)), (2, .int x2_13), (3, .int x3_24)]) hx hb dX7_finds_160 hl (by decide) rfl (fun ls hl => ?_)
              refine lv_iconst (v := 0) hx hb dX7_finds_162 (by decide) ?_
              refine lv_istore (lv' := [(5, .int 0), (4, .int 0), (0, .ref (ad 7 0)), (1, .int (nI sh)), (2, .int x2_13), (3, .int x3_24)]) hx hb dX7_finds_163 hl (by decide) rfl (fun ls hl => ?_)
              have cut_165 : ∀ (N : Nat) (pp : Nat) (kk : Nat) (x4 : Int32) (x5 : Int32) (σe : x_St), (pp ≤ R * C) → (kk < 4 ^ C) → (x4 = nI kk) → (x5 = nI pp) → (∀ a b d, a ≠ 68 → a ≠ 69 → ¬ (a = 7 ∧ (d = 40 ∨ d = 41)) → σe a b d = σ a b d) → (∀ q, 0 ≤ q → q ≤ R * C → ∀ j, j < 4 ^ C → σe 68 0 (4096 * q + j) = m_F σ sh R C (R * C - q) j) → (m_fw σ sh R C (R * C - pp) kk σe = m_fw σ sh R C (R * C) 0 (x_up (x_up σc 7 0 40 0) 7 0 41 0)) → (R * C - pp < N) → ∀ (H : Heap) (locs : List Loc) (ls : Array Slot), lv_has ls 9 [(0, .ref (ad 7 0)), (1, .int (nI sh)), (2, .int x2_13), (3, .int x3_24), (4, .int x4), (5, .int x5)] → x_B D cs base ad n st σe s H locs → W p l e (x_rm 3 0 0) s m ([.ref (ad 7 0), .int (nI sh)] : List Value).toArray below meth c H locs 0 0 (MQ below (va_Qv (q_X7_finds σ sh C R) (fun σ' => x_U D cs base ad n st σ') (x_A base)) ([.ref (ad 7 0), .int (nI sh)] : List Value).toArray s 0 0 (x_A base)) (F0 m 165 ls []) := by
                intro N
                induction N with
                | zero => intro pp kk x4 x5 σe hpe hkk h4 h5 hke hTe hI hN; exact absurd hN (Nat.not_lt_zero _)
                | succ N ih_165 =>
                  intro pp kk x4 x5 σe hpe hkk h4 h5 hke hTe hI hN H locs ls hl hw
                  refine lv_iload hx hb dX7_finds_165 (lv_at hl 5 rfl) ?_
                  refine lv_iload_n hx hb dX7_finds_167 rfl (lv_at hl 2 rfl) ?_
                  refine lv_icmp_ge (tgt := 280) hx hb dX7_finds_168 (by decide) (fun c_168 => ?_) (fun c_168 => ?_)
                  · exact xr_v hc hlocks hr hw (by have hz := x_ge h5 h2 (by omega) (by omega) c_168; rw [show R * C - pp = 0 by omega, m_fw] at hI; exact ⟨σc, hkc, hI⟩) (Nat.le_of_ble_eq_true rfl) (Nat.le_of_ble_eq_true rfl) dX7_finds_280
                  · have hpl : pp < R * C := x_nge h5 h2 (by omega) (by omega) c_168
                    obtain ⟨hF1, hF2⟩ := hch pp kk hpl hkk
                    refine lv_iconst (v := 3) hx hb dX7_finds_171 (by decide) ?_
                    refine lv_istore (lv' := [(6, .int 3), (0, .ref (ad 7 0)), (1, .int (nI sh)), (2, .int x2_13), (3, .int x3_24), (4, .int x4), (5, .int x5)]) hx hb dX7_finds_172 hl (by decide) rfl (fun ls hl => ?_)
                    have cut_174 : ∀ (N : Nat) (zz : Nat) (x6 : Int32), (zz ≤ 3) → (x6 = nI zz) → (∀ y, zz < y → y ≤ 3 → ¬ m_cF σ sh R C pp kk y (m_F σ sh R C (R * C - (pp + 1))) = m_F σ sh R C (R * C - pp) kk) → (zz < N) → ∀ (H : Heap) (locs : List Loc) (ls : Array Slot), lv_has ls 9 [(0, .ref (ad 7 0)), (1, .int (nI sh)), (2, .int x2_13), (3, .int x3_24), (4, .int x4), (5, .int x5), (6, .int x6)] → x_B D cs base ad n st σe s H locs → W p l e (x_rm 3 0 0) s m ([.ref (ad 7 0), .int (nI sh)] : List Value).toArray below meth c H locs 0 0 (MQ below (va_Qv (q_X7_finds σ sh C R) (fun σ' => x_U D cs base ad n st σ') (x_A base)) ([.ref (ad 7 0), .int (nI sh)] : List Value).toArray s 0 0 (x_A base)) (F0 m 174 ls []) := by
                      intro N
                      induction N with
                      | zero => intro zz x6 hz3 h6 hno hN; exact absurd hN (Nat.not_lt_zero _)
                      | succ N ih_174 =>
                        intro zz x6 hz3 h6 hno hN H locs ls hl hw
                        refine lv_aload_n hx hb dX7_finds_174 rfl (lv_at hl 0 rfl) ?_
                        refine lv_iload_n hx hb dX7_finds_175 rfl (lv_at hl 1 rfl) ?_
                        refine lv_iload hx hb dX7_finds_176 (lv_at hl 5 rfl) ?_
                        refine lv_iload hx hb dX7_finds_178 (lv_at hl 4 rfl) ?_
                        refine lv_iload hx hb dX7_finds_180 (lv_at hl 6 rfl) ?_
                        refine xc_Vi hc hw 7 0 (c_X7_comes sh pp zz C hsh ((hke 37 0 sh (by decide) (by decide) (by simp)).trans hC) hC1 hC0 (by omega) hz3 R ((hke 36 0 sh (by decide) (by decide) (by simp)).trans hR) hR0 kk hkk (fun y x h1 h2 => by rw [m_G, hke 39 _ _ (by decide) (by decide) (by simp)]; exact hG y x h1 h2) h7 hm) rfl rfl (h7) mw_851 mw_848 mw_4 mw_850 mp_22 xd_X7_comes ⟨by decide, by decide⟩ (by rw [h5, h4, h6]; rfl) hl.1 (Nat.le_of_ble_eq_true rfl) dX7_finds_182 ⟨Nat.le_of_ble_eq_true rfl, Nat.le_of_ble_eq_true rfl⟩ (fun r_182 σ_182 H locs hq hw => ?_)
                        obtain ⟨hσ_182, hr_182⟩ := hq
                        rw [hσ_182] at hw
                        refine lv_aload_n hx hb dX7_finds_185 rfl (lv_at hl 0 rfl) ?_
                        refine xg_r hc hw 7 0 38 rfl rfl rfl rfl (by decide) (h7) ((hm 68 (by decide) (by decide)).2) mw_725 dX7_finds_186 ?_
                        refine lv_sipush (v := 4096) hx hb dX7_finds_189 (by decide) ?_
                        refine lv_iload hx hb dX7_finds_192 (lv_at hl 5 rfl) ?_
                        refine lv_imul hx hb dX7_finds_194 ?_
                        refine lv_iload hx hb dX7_finds_195 (lv_at hl 4 rfl) ?_
                        refine lv_iadd hx hb dX7_finds_197 ?_
                        refine xa_ld hc hw 68 0 (4096 * pp + kk) rfl ((hm 68 (by decide) (by decide)).1) (by rw [h5, h4]; exact x_4096b) (by show _ < 151552; omega) dX7_finds_198 ?_
                        refine lv_icmp_eq (tgt := 208) hx hb dX7_finds_199 (by decide) (fun c_199 => ?_) (fun c_199 => ?_)
                        · have hgz := m_cm_eq (z := zz) hpl hke (fun j hj => hTe (pp + 1) (Nat.zero_le _) hpl j hj) hkk hC1 hz3
                          have hzF : m_cF σ sh R C pp kk zz (m_F σ sh R C (R * C - (pp + 1))) = m_F σ sh R C (R * C - pp) kk := (by rw [← hgz, ← hr_182, c_199]; exact hTe pp (Nat.zero_le _) (by omega) kk hkk)
                          have hstf : R * C - pp = (R * C - (pp + 1)) + 1 := by omega
                          have hchz : m_chz σ sh R C (R * C - (pp + 1)) kk = zz := m_chz_eq hpl hz3 hzF hno
                          rw [hstf, m_fw, hchz, show R * C - (R * C - (pp + 1) + 1) = pp by omega] at hI
                          obtain ⟨hmt, kv, hkv, hkl⟩ := m_next hz3 hC1 hkk (by rw [hzF]; exact hF1)
                          rw [hkv, Option.getD_some] at hI
                          refine lv_aload_n hx hb dX7_finds_208 rfl (lv_at hl 0 rfl) ?_
                          refine xg_r hc hw 7 0 39 rfl rfl rfl rfl (by decide) (h7) ((hm 69 (by decide) (by decide)).2) mw_726 dX7_finds_209 ?_
                          refine lv_iload hx hb dX7_finds_212 (lv_at hl 5 rfl) ?_
                          refine lv_iload hx hb dX7_finds_214 (lv_at hl 6 rfl) ?_
                          refine xa_st hc hw 69 0 pp rfl ((hm 69 (by decide) (by decide)).1) (h5) (by show _ < 36; omega) dX7_finds_216 (fun H locs hw => ?_)
                          obtain ⟨σi, eσi⟩ : ∃ z : x_St, z = x_up σe 69 0 pp x6 := ⟨_, rfl⟩
                          rw [← eσi] at hw
                          have hki : ∀ a b d, a ≠ 68 → a ≠ 69 → ¬ (a = 7 ∧ (d = 40 ∨ d = 41)) → σi a b d = σ a b d := (fun a b d h1 h2 h3 => by rw [eσi, x_up_n (fun z => h2 z.1)]; exact hke a b d h1 h2 h3)
                          have hTi : ∀ q, 0 ≤ q → q ≤ R * C → ∀ j, j < 4 ^ C → σi 68 0 (4096 * q + j) = m_F σ sh R C (R * C - q) j := (fun w h1 h2 j hj => by rw [eσi, x_up_n (by omega)]; exact hTe w h1 h2 j hj)
                          have cut_261 : ∀ (σg : x_St), (∀ a b d, a ≠ 68 → a ≠ 69 → ¬ (a = 7 ∧ (d = 40 ∨ d = 41)) → σg a b d = σ a b d) → (∀ q, 0 ≤ q → q ≤ R * C → ∀ j, j < 4 ^ C → σg 68 0 (4096 * q + j) = m_F σ sh R C (R * C - q) j) → (m_fw σ sh R C (R * C - (pp + 1)) kv σg = m_fw σ sh R C (R * C) 0 (x_up (x_up σc 7 0 40 0) 7 0 41 0)) → ∀ (H : Heap) (locs : List Loc) (ls : Array Slot), lv_has ls 9 [(0, .ref (ad 7 0)), (1, .int (nI sh)), (2, .int x2_13), (3, .int x3_24), (4, .int x4), (5, .int x5), (6, .int x6)] → x_B D cs base ad n st σg s H locs → W p l e (x_rm 3 0 0) s m ([.ref (ad 7 0), .int (nI sh)] : List Value).toArray below meth c H locs 0 0 (MQ below (va_Qv (q_X7_finds σ sh C R) (fun σ' => x_U D cs base ad n st σ') (x_A base)) ([.ref (ad 7 0), .int (nI sh)] : List Value).toArray s 0 0 (x_A base)) (F0 m 261 ls []) := by
                            intro σg hkg hTg hIg H locs ls hl hw
                            refine lv_aload_n hx hb dX7_finds_261 rfl (lv_at hl 0 rfl) ?_
                            refine lv_iload_n hx hb dX7_finds_262 rfl (lv_at hl 1 rfl) ?_
                            refine lv_iload hx hb dX7_finds_263 (lv_at hl 5 rfl) ?_
                            refine lv_iload hx hb dX7_finds_265 (lv_at hl 4 rfl) ?_
                            refine lv_iload hx hb dX7_finds_267 (lv_at hl 6 rfl) ?_
                            refine xc_Vi hc hw 7 0 (c_X7_taken sh pp zz C hsh ((hkg 37 0 sh (by decide) (by decide) (by simp)).trans hC) hC1 hC0 (by omega) hz3 kk (by omega) h7 hm) rfl rfl (h7) mw_859 mw_856 mw_4 mw_858 mp_24 xd_X7_taken ⟨by decide, by decide⟩ (by rw [h5, h4, h6]; rfl) hl.1 (Nat.le_of_ble_eq_true rfl) dX7_finds_269 ⟨Nat.le_of_ble_eq_true rfl, Nat.le_of_ble_eq_true rfl⟩ (fun r_269 σ_269 H locs hq hw => ?_)
                            obtain ⟨hσ_269, hr_269⟩ := hq
                            rw [hσ_269] at hw
                            refine lv_istore (lv' := [(4, .int r_269), (0, .ref (ad 7 0)), (1, .int (nI sh)), (2, .int x2_13), (3, .int x3_24), (5, .int x5), (6, .int x6)]) hx hb dX7_finds_272 hl (by decide) rfl (fun ls hl => ?_)
                            obtain ⟨x5_274, ex5_274⟩ : ∃ y : Int32, y = x5 + 1 := ⟨_, rfl⟩
                            refine lv_iinc (v := x5_274) (lv' := [(5, .int x5_274), (4, .int r_269), (0, .ref (ad 7 0)), (1, .int (nI sh)), (2, .int x2_13), (3, .int x3_24), (6, .int x6)]) hx hb dX7_finds_274 hl (k := 5) rfl (by rw [ex5_274]; rfl) (by decide) rfl (fun ls hl => ?_)
                            refine lv_goto (tgt := 165) hx hb dX7_finds_277 (by decide) ?_
                            exact ih_165 (pp + 1) kv _ _ _ (by omega) (hkl) (by rw [hr_269, hkv]; rfl) (by rw [ex5_274, h5, nI_1]) (hkg) (hTg) (hIg) (by omega) _ _ _ (lv_sub hl [2, 3, 4, 5, 1, 0] rfl) hw
                          refine lv_iload hx hb dX7_finds_217 (lv_at hl 6 rfl) ?_
                          refine lv_if_le (tgt := 261) hx hb dX7_finds_219 (by decide) (fun c_219 => ?_) (fun c_219 => ?_)
                          · exact cut_261 _ (hki) (hTi) (by rw [m_wr, if_pos (x_z0 h6 (by omega) c_219), ← h6, ← eσi] at hI; exact hI) _ _ _ (lv_sub hl [0, 1, 2, 3, 4, 5, 6] rfl) hw
                          · have hz1 : ¬ zz = 0 := fun z => c_219 (by rw [h6, z]; decide)
                            rw [m_wr, if_neg hz1] at hI
                            refine lv_aload_n hx hb dX7_finds_222 rfl (lv_at hl 0 rfl) ?_
                            refine lv_dup hx hb dX7_finds_223 rfl ?_
                            refine xg_i hc hw 7 0 40 rfl rfl rfl rfl (by decide) (h7) mw_727 dX7_finds_224 ?_
                            refine lv_iconst (v := 1) hx hb dX7_finds_227 (by decide) ?_
                            refine lv_iadd hx hb dX7_finds_228 ?_
                            refine xp_i hc hw 7 0 40 rfl rfl rfl rfl (by decide) (h7) rfl (ty := .int) (by decide +kernel) rfl rfl mw_727 dX7_finds_229 (fun H locs hw => ?_)
                            obtain ⟨σj, eσj⟩ : ∃ z : x_St, z = x_up σi 7 0 40 (σi 7 0 40 + 1) := ⟨_, rfl⟩
                            rw [← eσj] at hw
                            have hkj : ∀ a b d, a ≠ 68 → a ≠ 69 → ¬ (a = 7 ∧ (d = 40 ∨ d = 41)) → σj a b d = σ a b d := (fun a b d h1 h2 h3 => by rw [eσj, x_up_n (fun z => h3 ⟨z.1, Or.inl z.2.2⟩)]; exact hki a b d h1 h2 h3)
                            have hTj : ∀ q, 0 ≤ q → q ≤ R * C → ∀ j, j < 4 ^ C → σj 68 0 (4096 * q + j) = m_F σ sh R C (R * C - q) j := (fun w h1 h2 j hj => by rw [eσj, x_up_n (by omega)]; exact hTi w h1 h2 j hj)
                            refine lv_aload_n hx hb dX7_finds_232 rfl (lv_at hl 0 rfl) ?_
                            refine lv_dup hx hb dX7_finds_233 rfl ?_
                            refine xg_i hc hw 7 0 41 rfl rfl rfl rfl (by decide) (h7) mw_728 dX7_finds_234 ?_
                            refine lv_aload_n hx hb dX7_finds_237 rfl (lv_at hl 0 rfl) ?_
                            refine xg_r hc hw 7 0 11 rfl rfl rfl rfl (by decide) (h7) ((hm 41 (by decide) (by decide)).2) mw_698 dX7_finds_238 ?_
                            refine lv_bipush (v := 10) hx hb dX7_finds_241 (by decide) ?_
                            refine lv_iload hx hb dX7_finds_243 (lv_at hl 6 rfl) ?_
                            refine lv_imul hx hb dX7_finds_245 ?_
                            refine lv_aload_n hx hb dX7_finds_246 rfl (lv_at hl 0 rfl) ?_
                            refine lv_iload_n hx hb dX7_finds_247 rfl (lv_at hl 1 rfl) ?_
                            refine lv_iload hx hb dX7_finds_248 (lv_at hl 5 rfl) ?_
                            refine lv_iload hx hb dX7_finds_250 (lv_at hl 6 rfl) ?_
                            refine xc_Vi hc hw 7 0 (c_X7_thickness sh pp zz C hsh ((hkj 37 0 sh (by decide) (by decide) (by simp)).trans hC) hC1 hC0 (by omega) hz3 R ((hkj 36 0 sh (by decide) (by decide) (by simp)).trans hR) hR0 h7 hm) rfl rfl (h7) mw_855 mw_852 mw_4 mw_854 mp_23 xd_X7_thickness ⟨by decide, by decide⟩ (by rw [h5, h6]; rfl) hl.1 (Nat.le_of_ble_eq_true rfl) dX7_finds_252 ⟨Nat.le_of_ble_eq_true rfl, Nat.le_of_ble_eq_true rfl⟩ (fun r_252 σ_252 H locs hq hw => ?_)
                            obtain ⟨hσ_252, hr_252⟩ := hq
                            rw [hσ_252] at hw
                            have hth : r_252 = m_th (m_G σ sh C) R C pp zz := (by rw [hr_252]; congr 1; funext y x; rw [m_G, hkj 39 _ _ (by decide) (by decide) (by simp)]; rfl)
                            obtain ⟨tt, ht9, htt⟩ := m_th_ok (R := R) (C := C) (pl := pp) (z := zz) hG
                            refine lv_iadd hx hb dX7_finds_255 ?_
                            refine xa_ld hc hw 41 0 (10 * zz + tt) rfl ((hm 41 (by decide) (by decide)).1) (by rw [hth, htt]; exact x_10z) (by show _ < 40; omega) dX7_finds_256 ?_
                            refine lv_iadd hx hb dX7_finds_257 ?_
                            refine xp_i hc hw 7 0 41 rfl rfl rfl rfl (by decide) (h7) rfl (ty := .int) (by decide +kernel) rfl rfl mw_728 dX7_finds_258 (fun H locs hw => ?_)
                            exact cut_261 _ (fun a b d h1 h2 h3 => by rw [x_up_n (fun z => h3 ⟨z.1, Or.inr z.2.2⟩)]; exact hkj a b d h1 h2 h3) (fun w h1 h2 j hj => by rw [x_up_n (by omega)]; exact hTj w h1 h2 j hj) (by rw [htt, x_cn (by omega), ← h6, ← eσi] at hI; rw [hkj 41 0 _ (by decide) (by decide) (by simp), (show σj 7 0 41 = σe 7 0 41 from by rw [eσj, eσi]; simp [x_up]), eσj, (show σi 7 0 40 = σe 7 0 40 from by rw [eσi]; simp [x_up])]; exact hI) _ _ _ (lv_sub hl [0, 1, 2, 3, 4, 5, 6] rfl) hw
                        · have hgz := m_cm_eq (z := zz) hpl hke (fun j hj => hTe (pp + 1) (Nat.zero_le _) hpl j hj) hkk hC1 hz3
                          have hnz : ¬ m_cF σ sh R C pp kk zz (m_F σ sh R C (R * C - (pp + 1))) = m_F σ sh R C (R * C - pp) kk := fun z => c_199 (by rw [hr_182, hgz, z]; exact (hTe pp (Nat.zero_le _) (by omega) kk hkk).symm)
                          obtain ⟨z1, rfl⟩ : ∃ z1, zz = z1 + 1 := (by rcases Nat.eq_zero_or_pos zz with w | w; obtain ⟨z9, g1, g2⟩ := hF2; exact absurd g2 (by rcases Nat.eq_zero_or_pos z9 with w2 | w2; rw [w2, ← w]; exact hnz; exact hno z9 (by omega) g1); exact ⟨zz - 1, by omega⟩)
                          obtain ⟨x6_202, ex6_202⟩ : ∃ y : Int32, y = x6 + (-1) := ⟨_, rfl⟩
                          refine lv_iinc (v := x6_202) (lv' := [(6, .int x6_202), (0, .ref (ad 7 0)), (1, .int (nI sh)), (2, .int x2_13), (3, .int x3_24), (4, .int x4), (5, .int x5)]) hx hb dX7_finds_202 hl (k := 6) rfl (by rw [ex6_202]; rfl) (by decide) rfl (fun ls hl => ?_)
                          refine lv_goto (tgt := 174) hx hb dX7_finds_205 (by decide) ?_
                          exact ih_174 z1 _ (by omega) (by rw [ex6_202, h6, pk_m1]) (fun y h1 h2 => by by_cases hy9 : y = z1 + 1; rw [hy9]; exact hnz; exact hno y (by omega) h2) (by omega) _ _ _ (lv_sub hl [1, 2, 3, 4, 5, 6, 0] rfl) hw
                    exact cut_174 _ 3 _ (Nat.le_refl _) (rfl) (fun y h1 h2 => by omega) (Nat.lt_succ_self _) _ _ _ (lv_sub hl [1, 2, 3, 4, 5, 6, 0] rfl) hw
              exact cut_165 _ 0 0 _ _ _ (Nat.zero_le _) (Nat.pow_pos (by decide)) (rfl) (rfl) (fun a b d h1 h2 h3 => by rw [x_up_n (fun z => h3 ⟨z.1, Or.inr z.2.2⟩), x_up_n (fun z => h3 ⟨z.1, Or.inl z.2.2⟩)]; exact hkc a b d h1) (fun w h1 h2 j hj => by rw [x_up_n (by omega), x_up_n (by omega)]; exact hTc w (by omega) h2 j hj) (rfl) (Nat.lt_succ_self _) _ _ _ (lv_sub hl [2, 3, 4, 5, 1, 0] rfl) hw
            · obtain ⟨pp, rfl⟩ : ∃ pp, pq = pp + 1 := ⟨pq - 1, by rcases Nat.eq_zero_or_pos pq with z | z; exact absurd (show x4 < 0 by rw [h4, z]; decide) c_61; omega⟩
              have h4p : x4 = nI pp := (by rw [h4, nI_pred])
              refine lv_iconst (v := 0) hx hb dX7_finds_64 (by decide) ?_
              refine lv_istore (lv' := [(5, .int 0), (0, .ref (ad 7 0)), (1, .int (nI sh)), (2, .int x2_13), (3, .int x3_24), (4, .int x4)]) hx hb dX7_finds_65 hl (by decide) rfl (fun ls hl => ?_)
              have cut_67 : ∀ (N : Nat) (q : Nat) (x5 : Int32) (σd : x_St), (q ≤ 4 ^ C) → (x5 = nI q) → (∀ a b d, a ≠ 68 → σd a b d = σ a b d) → (∀ q, pp + 1 ≤ q → q ≤ R * C → ∀ j, j < 4 ^ C → σd 68 0 (4096 * q + j) = m_F σ sh R C (R * C - q) j) → (∀ j, j < q → σd 68 0 (4096 * pp + j) = m_F σ sh R C (R * C - pp) j) → (4 ^ C - q < N) → ∀ (H : Heap) (locs : List Loc) (ls : Array Slot), lv_has ls 9 [(0, .ref (ad 7 0)), (1, .int (nI sh)), (2, .int x2_13), (3, .int x3_24), (4, .int x4), (5, .int x5)] → x_B D cs base ad n st σd s H locs → W p l e (x_rm 3 0 0) s m ([.ref (ad 7 0), .int (nI sh)] : List Value).toArray below meth c H locs 0 0 (MQ below (va_Qv (q_X7_finds σ sh C R) (fun σ' => x_U D cs base ad n st σ') (x_A base)) ([.ref (ad 7 0), .int (nI sh)] : List Value).toArray s 0 0 (x_A base)) (F0 m 67 ls []) := by
                intro N
                induction N with
                | zero => intro q x5 σd hq9 h5 hkd hTd hTp hN; exact absurd hN (Nat.not_lt_zero _)
                | succ N ih_67 =>
                  intro q x5 σd hq9 h5 hkd hTd hTp hN H locs ls hl hw
                  have hpp : pp + 1 ≤ R * C := hpq
                  refine lv_iload hx hb dX7_finds_67 (lv_at hl 5 rfl) ?_
                  refine lv_iload_n hx hb dX7_finds_69 rfl (lv_at hl 3 rfl) ?_
                  refine lv_icmp_ge (tgt := 143) hx hb dX7_finds_70 (by decide) (fun c_70 => ?_) (fun c_70 => ?_)
                  · obtain ⟨x4_143, ex4_143⟩ : ∃ y : Int32, y = x4 + (-1) := ⟨_, rfl⟩
                    refine lv_iinc (v := x4_143) (lv' := [(4, .int x4_143), (0, .ref (ad 7 0)), (1, .int (nI sh)), (2, .int x2_13), (3, .int x3_24), (5, .int x5)]) hx hb dX7_finds_143 hl (k := 4) rfl (by rw [ex4_143]; rfl) (by decide) rfl (fun ls hl => ?_)
                    refine lv_goto (tgt := 59) hx hb dX7_finds_146 (by decide) ?_
                    exact ih_59 pp _ _ (by omega) (by rw [ex4_143, h4p, Int32.sub_eq_add_neg]) (hkd) (fun w h1 h2 j hj => by have hqe := x_ge h5 h3 (by omega) (by omega) c_70; by_cases hw9 : w = pp; rw [hw9]; exact hTp j (by omega); exact hTd w (by omega) h2 j hj) (by omega) _ _ _ (lv_sub hl [1, 2, 3, 4, 0] rfl) hw
                  · have hql : q < 4 ^ C := x_nge h5 h3 (by omega) (by omega) c_70
                    refine lv_ldc hx hb hown (hc.2.2.2.2 _ mw_847) dX7_finds_73 ?_
                    refine lv_istore (lv' := [(6, .int (-1000000)), (0, .ref (ad 7 0)), (1, .int (nI sh)), (2, .int x2_13), (3, .int x3_24), (4, .int x4), (5, .int x5)]) hx hb dX7_finds_75 hl (by decide) rfl (fun ls hl => ?_)
                    refine lv_iconst (v := 0) hx hb dX7_finds_77 (by decide) ?_
                    refine lv_istore (lv' := [(7, .int 0), (6, .int (-1000000)), (0, .ref (ad 7 0)), (1, .int (nI sh)), (2, .int x2_13), (3, .int x3_24), (4, .int x4), (5, .int x5)]) hx hb dX7_finds_78 hl (by decide) rfl (fun ls hl => ?_)
                    have cut_80 : ∀ (N : Nat) (zz : Nat) (x6 : Int32) (x7 : Int32), (zz ≤ 4) → (x7 = nI zz) → (m_mxf (fun z => m_cm σd sh R C pp q z) (4 - zz) zz x6 = m_mxf (fun z => m_cm σd sh R C pp q z) 4 0 (-1000000)) → (4 - zz < N) → ∀ (H : Heap) (locs : List Loc) (ls : Array Slot), lv_has ls 9 [(0, .ref (ad 7 0)), (1, .int (nI sh)), (2, .int x2_13), (3, .int x3_24), (4, .int x4), (5, .int x5), (6, .int x6), (7, .int x7)] → x_B D cs base ad n st σd s H locs → W p l e (x_rm 3 0 0) s m ([.ref (ad 7 0), .int (nI sh)] : List Value).toArray below meth c H locs 0 0 (MQ below (va_Qv (q_X7_finds σ sh C R) (fun σ' => x_U D cs base ad n st σ') (x_A base)) ([.ref (ad 7 0), .int (nI sh)] : List Value).toArray s 0 0 (x_A base)) (F0 m 80 ls []) := by
                      intro N
                      induction N with
                      | zero => intro zz x6 x7 hz9 h7z hM hN; exact absurd hN (Nat.not_lt_zero _)
                      | succ N ih_80 =>
                        intro zz x6 x7 hz9 h7z hM hN H locs ls hl hw
                        refine lv_iload hx hb dX7_finds_80 (lv_at hl 7 rfl) ?_
                        refine lv_iconst (v := 3) hx hb dX7_finds_82 (by decide) ?_
                        refine lv_icmp_gt (tgt := 121) hx hb dX7_finds_83 (by decide) (fun c_83 => ?_) (fun c_83 => ?_)
                        · have hz4 : ¬ zz ≤ 3 := fun z => absurd (nI_le z (by decide)) (Int32.not_le.mpr (by rw [← h7z]; exact c_83))
                          rw [show 4 - zz = 0 by omega, m_mxf] at hM
                          have h6v : x6 = m_F σ sh R C (R * C - pp) q := hM.trans (m_F_step hpp hkd (fun j hj => hTd (pp + 1) (Nat.le_refl _) hpp j hj) hql hC1)
                          refine lv_aload_n hx hb dX7_finds_121 rfl (lv_at hl 0 rfl) ?_
                          refine xg_r hc hw 7 0 38 rfl rfl rfl rfl (by decide) (h7) ((hm 68 (by decide) (by decide)).2) mw_725 dX7_finds_122 ?_
                          refine lv_sipush (v := 4096) hx hb dX7_finds_125 (by decide) ?_
                          refine lv_iload hx hb dX7_finds_128 (lv_at hl 4 rfl) ?_
                          refine lv_imul hx hb dX7_finds_130 ?_
                          refine lv_iload hx hb dX7_finds_131 (lv_at hl 5 rfl) ?_
                          refine lv_iadd hx hb dX7_finds_133 ?_
                          refine lv_iload hx hb dX7_finds_134 (lv_at hl 6 rfl) ?_
                          refine xa_st hc hw 68 0 (4096 * pp + q) rfl ((hm 68 (by decide) (by decide)).1) (by rw [h4p, h5]; exact x_4096b) (by show _ < 151552; omega) dX7_finds_136 (fun H locs hw => ?_)
                          obtain ⟨x5_137, ex5_137⟩ : ∃ y : Int32, y = x5 + 1 := ⟨_, rfl⟩
                          refine lv_iinc (v := x5_137) (lv' := [(5, .int x5_137), (0, .ref (ad 7 0)), (1, .int (nI sh)), (2, .int x2_13), (3, .int x3_24), (4, .int x4), (6, .int x6), (7, .int x7)]) hx hb dX7_finds_137 hl (k := 5) rfl (by rw [ex5_137]; rfl) (by decide) rfl (fun ls hl => ?_)
                          refine lv_goto (tgt := 67) hx hb dX7_finds_140 (by decide) ?_
                          exact ih_67 (q + 1) _ _ (by omega) (by rw [ex5_137, h5, nI_1]) (fun a b d h => (x_up_n (fun z => h z.1)).trans (hkd a b d h)) (fun w h1 h2 j hj => by rw [x_up_n (by omega)]; exact hTd w h1 h2 j hj) (fun j hj => by by_cases hjq : j = q; rw [hjq, x_up_s]; exact h6v; rw [x_up_n (by omega)]; exact hTp j (by omega)) (by omega) _ _ _ (lv_sub hl [1, 2, 3, 4, 5, 0] rfl) hw
                        · have hz3 : zz ≤ 3 := x_ngt h7z (b := 3) rfl (by omega) (by decide) c_83
                          have hst : 4 - zz = (4 - (zz + 1)) + 1 := by omega
                          rw [hst, m_mxf] at hM
                          refine lv_aload_n hx hb dX7_finds_86 rfl (lv_at hl 0 rfl) ?_
                          refine lv_iload_n hx hb dX7_finds_87 rfl (lv_at hl 1 rfl) ?_
                          refine lv_iload hx hb dX7_finds_88 (lv_at hl 4 rfl) ?_
                          refine lv_iload hx hb dX7_finds_90 (lv_at hl 5 rfl) ?_
                          refine lv_iload hx hb dX7_finds_92 (lv_at hl 7 rfl) ?_
                          refine xc_Vi hc hw 7 0 (c_X7_comes sh pp zz C hsh ((hkd 37 0 sh (by decide)).trans hC) hC1 hC0 (by omega) hz3 R ((hkd 36 0 sh (by decide)).trans hR) hR0 q hql (fun y x h1 h2 => by rw [m_G, hkd 39 _ _ (by decide)]; exact hG y x h1 h2) h7 hm) rfl rfl (h7) mw_851 mw_848 mw_4 mw_850 mp_22 xd_X7_comes ⟨by decide, by decide⟩ (by rw [h4p, h5, h7z]; rfl) hl.1 (Nat.le_of_ble_eq_true rfl) dX7_finds_94 ⟨Nat.le_of_ble_eq_true rfl, Nat.le_of_ble_eq_true rfl⟩ (fun r_94 σ_94 H locs hq hw => ?_)
                          obtain ⟨hσ_94, hr_94⟩ := hq
                          rw [hσ_94] at hw
                          refine lv_istore (lv' := [(8, .int r_94), (0, .ref (ad 7 0)), (1, .int (nI sh)), (2, .int x2_13), (3, .int x3_24), (4, .int x4), (5, .int x5), (6, .int x6), (7, .int x7)]) hx hb dX7_finds_97 hl (by decide) rfl (fun ls hl => ?_)
                          refine lv_iload hx hb dX7_finds_99 (lv_at hl 0 rfl) ?_
                          refine lv_iload hx hb dX7_finds_101 (lv_at hl 7 rfl) ?_
                          refine lv_icmp_le (tgt := 111) hx hb dX7_finds_103 (by decide) (fun c_103 => ?_) (fun c_103 => ?_)
                          · refine lv_iload hx hb dX7_finds_111 (lv_at hl 7 rfl) ?_
                            refine lv_istore (lv' := [(6, .int x6), (8, .int r_94), (0, .ref (ad 7 0)), (1, .int (nI sh)), (2, .int x2_13), (3, .int x3_24), (4, .int x4), (5, .int x5), (7, .int x7)]) hx hb dX7_finds_113 hl (by decide) rfl (fun ls hl => ?_)
                            obtain ⟨x7_115, ex7_115⟩ : ∃ y : Int32, y = x7 + 1 := ⟨_, rfl⟩
                            refine lv_iinc (v := x7_115) (lv' := [(7, .int x7_115), (6, .int x6), (8, .int r_94), (0, .ref (ad 7 0)), (1, .int (nI sh)), (2, .int x2_13), (3, .int x3_24), (4, .int x4), (5, .int x5)]) hx hb dX7_finds_115 hl (k := 8) rfl (by rw [ex7_115]; rfl) (by decide) rfl (fun ls hl => ?_)
                            refine lv_goto (tgt := 80) hx hb dX7_finds_118 (by decide) ?_
                            exact ih_80 (zz + 1) _ _ (by omega) (by rw [ex7_115, h7z, nI_1]) (by first | (rw [if_pos (show x6 < m_cm σd sh R C pp q zz by rw [← hr_94]; exact Int32.not_le.mp c_103)] at hM; rw [hr_94]; exact hM) | (rw [if_neg (show ¬ x6 < m_cm σd sh R C pp q zz by rw [← hr_94]; exact Int32.not_lt.mpr c_103)] at hM; exact hM)) (by omega) _ _ _ (lv_sub hl [3, 4, 5, 6, 7, 8, 1, 0] rfl) hw
                          · refine lv_iload hx hb dX7_finds_106 (lv_at hl 0 rfl) ?_
                            refine lv_goto (tgt := 113) hx hb dX7_finds_108 (by decide) ?_
                            refine lv_istore (lv' := [(6, .int r_94), (8, .int r_94), (0, .ref (ad 7 0)), (1, .int (nI sh)), (2, .int x2_13), (3, .int x3_24), (4, .int x4), (5, .int x5), (7, .int x7)]) hx hb dX7_finds_113 hl (by decide) rfl (fun ls hl => ?_)
                            obtain ⟨x7_115, ex7_115⟩ : ∃ y : Int32, y = x7 + 1 := ⟨_, rfl⟩
                            refine lv_iinc (v := x7_115) (lv' := [(7, .int x7_115), (6, .int r_94), (8, .int r_94), (0, .ref (ad 7 0)), (1, .int (nI sh)), (2, .int x2_13), (3, .int x3_24), (4, .int x4), (5, .int x5)]) hx hb dX7_finds_115 hl (k := 8) rfl (by rw [ex7_115]; rfl) (by decide) rfl (fun ls hl => ?_)
                            refine lv_goto (tgt := 80) hx hb dX7_finds_118 (by decide) ?_
                            exact ih_80 (zz + 1) _ _ (by omega) (by rw [ex7_115, h7z, nI_1]) (by first | (rw [if_pos (show x6 < m_cm σd sh R C pp q zz by rw [← hr_94]; exact Int32.not_le.mp c_103)] at hM; rw [hr_94]; exact hM) | (rw [if_neg (show ¬ x6 < m_cm σd sh R C pp q zz by rw [← hr_94]; exact Int32.not_lt.mpr c_103)] at hM; exact hM)) (by omega) _ _ _ (lv_sub hl [3, 4, 5, 6, 7, 8, 1, 0] rfl) hw
                    exact cut_80 _ 0 _ _ (by decide) (rfl) (rfl) (Nat.lt_succ_self _) _ _ _ (lv_sub hl [2, 3, 4, 5, 6, 7, 1, 0] rfl) hw
              exact cut_67 _ 0 _ _ (Nat.zero_le _) (rfl) (hkc) (hTc) (fun j hj => absurd hj (Nat.not_lt_zero _)) (Nat.lt_succ_self _) _ _ _ (lv_sub hl [1, 2, 3, 4, 5, 0] rfl) hw
        exact cut_59 _ (R * C) _ _ (Nat.le_refl _) (by rw [ex4_57, h2]) (hkc) (fun w h1 h2 j hj => by rw [show w = R * C by omega, Nat.sub_self]; exact hTc j (by omega)) (Nat.lt_succ_self _) _ _ _ (lv_sub hl [1, 2, 3, 4, 0] rfl) hw
      · have hql : q < 4 ^ C := x_nge h4 h3 (by omega) (by omega) c_31
        refine lv_aload_n hx hb dX7_finds_34 rfl (lv_at hl 0 rfl) ?_
        refine xg_r hc hw 7 0 38 rfl rfl rfl rfl (by decide) (h7) ((hm 68 (by decide) (by decide)).2) mw_725 dX7_finds_35 ?_
        refine lv_sipush (v := 4096) hx hb dX7_finds_38 (by decide) ?_
        refine lv_iload_n hx hb dX7_finds_41 rfl (lv_at hl 2 rfl) ?_
        refine lv_imul hx hb dX7_finds_42 ?_
        refine lv_iload hx hb dX7_finds_43 (lv_at hl 4 rfl) ?_
        refine lv_iadd hx hb dX7_finds_45 ?_
        refine lv_iconst (v := 0) hx hb dX7_finds_46 (by decide) ?_
        refine xa_st hc hw 68 0 (4096 * (R * C) + q) rfl ((hm 68 (by decide) (by decide)).1) (by rw [h2, h4]; exact x_4096b) (by show _ < 151552; omega) dX7_finds_47 (fun H locs hw => ?_)
        obtain ⟨x4_48, ex4_48⟩ : ∃ y : Int32, y = x4 + 1 := ⟨_, rfl⟩
        refine lv_iinc (v := x4_48) (lv' := [(4, .int x4_48), (0, .ref (ad 7 0)), (1, .int (nI sh)), (2, .int x2_13), (3, .int x3_24)]) hx hb dX7_finds_48 hl (k := 4) rfl (by rw [ex4_48]; rfl) (by decide) rfl (fun ls hl => ?_)
        refine lv_goto (tgt := 28) hx hb dX7_finds_51 (by decide) ?_
        exact ih_28 (q + 1) _ _ (by omega) (by rw [ex4_48, h4, nI_1]) (fun a b d h => (x_up_n (fun z => h z.1)).trans (hkc a b d h)) (fun j hj => by by_cases hjq : j = q; rw [hjq, x_up_s]; rw [x_up_n (by omega)]; exact hTc j (by omega)) (by omega) _ _ _ (lv_sub hl [1, 2, 3, 4, 0] rfl) hw
  exact cut_28 _ 0 _ _ (Nat.zero_le _) (rfl) (fun _ _ _ _ => rfl) (fun j hj => absurd hj (Nat.not_lt_zero _)) (Nat.lt_succ_self _) _ _ _ (lv_sub hl [3, 4, 2, 1, 0] rfl) hw
