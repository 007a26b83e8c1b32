theorem z_POWERS {b : Nat} {s : State} (hts : ∀ w ∈ lw_tbl, w.before #[Value.ref b] s = true) (hfl : ∀ w ∈ flatC (Jvm.Cond.and given_1 narrow_1), w.before #[Value.ref b] s = true) : ∃ aP : Nat, va_Z RX2 "POWERS" "[I" (.ref aP) (fun q => s.heap.size ≤ q) s s.heap ∧ va_T .int aP 6 (fun j => .int (x_pow j)) (fun q => s.heap.size ≤ q) s s.heap ∧ aP < s.heap.size := by
  have hA : ∀ a : Nat, a < s.heap.size → ¬ (fun q => s.heap.size ≤ q) a := fun a h => Nat.not_le.mpr h
  obtain ⟨t, h1, h2⟩ := va_Tof (args := #[Value.ref b]) (s := s) (tm := .static RX2 "POWERS" "[I") (ty := .int) (N := 6) (f := fun j => .int (x_pow j)) (A := fun q => s.heap.size ≤ q) (by decide) (hfl _ (by decide +kernel)) (va_eqt (z := 6) (hfl _ (by decide +kernel)))
    (fun j hj => by
      rcases (by omega : j = 0 ∨ j = 1 ∨ j = 2 ∨ j = 3 ∨ j = 4 ∨ j = 5) with rfl | rfl | rfl | rfl | rfl | rfl
      · exact va_eqt (hfl (.eq (.elem (.static RX2 "POWERS" "[I") (.int 0)) (.int (x_pow 0))) (by decide +kernel))
      · exact va_eqt (hfl (.eq (.elem (.static RX2 "POWERS" "[I") (.int 1)) (.int (x_pow 1))) (by decide +kernel))
      · exact va_eqt (hfl (.eq (.elem (.static RX2 "POWERS" "[I") (.int 2)) (.int (x_pow 2))) (by decide +kernel))
      · exact va_eqt (hfl (.eq (.elem (.static RX2 "POWERS" "[I") (.int 3)) (.int (x_pow 3))) (by decide +kernel))
      · exact va_eqt (hfl (.eq (.elem (.static RX2 "POWERS" "[I") (.int 4)) (.int (x_pow 4))) (by decide +kernel))
      · exact va_eqt (hfl (.eq (.elem (.static RX2 "POWERS" "[I") (.int 5)) (.int (x_pow 5))) (by decide +kernel))) hA
  exact ⟨t, va_Zof (hts _ (by decide +kernel)) (hts _ (by decide +kernel)) h1 hA, h2, Nat.not_le.mp (by obtain ⟨_, _, _, _, _, _, _, h⟩ := h2; exact h)⟩
theorem z_ONCE_TAKEN {b : Nat} {s : State} (hts : ∀ w ∈ lw_tbl, w.before #[Value.ref b] s = true) (hfl : ∀ w ∈ flatC (Jvm.Cond.and given_1 narrow_1), w.before #[Value.ref b] s = true) : ∃ aP : Nat, va_Z RX2 "ONCE_TAKEN" "[I" (.ref aP) (fun q => s.heap.size ≤ q) s s.heap ∧ va_T .int aP 4 (fun j => .int (x_once j)) (fun q => s.heap.size ≤ q) s s.heap ∧ aP < s.heap.size := by
  have hA : ∀ a : Nat, a < s.heap.size → ¬ (fun q => s.heap.size ≤ q) a := fun a h => Nat.not_le.mpr h
  obtain ⟨t, h1, h2⟩ := va_Tof (args := #[Value.ref b]) (s := s) (tm := .static RX2 "ONCE_TAKEN" "[I") (ty := .int) (N := 4) (f := fun j => .int (x_once j)) (A := fun q => s.heap.size ≤ q) (by decide) (hfl _ (by decide +kernel)) (va_eqt (z := 4) (hfl _ (by decide +kernel)))
    (fun j hj => by
      rcases (by omega : j = 0 ∨ j = 1 ∨ j = 2 ∨ j = 3) with rfl | rfl | rfl | rfl
      · exact va_eqt (hfl (.eq (.elem (.static RX2 "ONCE_TAKEN" "[I") (.int 0)) (.int (x_once 0))) (by decide +kernel))
      · exact va_eqt (hfl (.eq (.elem (.static RX2 "ONCE_TAKEN" "[I") (.int 1)) (.int (x_once 1))) (by decide +kernel))
      · exact va_eqt (hfl (.eq (.elem (.static RX2 "ONCE_TAKEN" "[I") (.int 2)) (.int (x_once 2))) (by decide +kernel))
      · exact va_eqt (hfl (.eq (.elem (.static RX2 "ONCE_TAKEN" "[I") (.int 3)) (.int (x_once 3))) (by decide +kernel))) hA
  exact ⟨t, va_Zof (hts _ (by decide +kernel)) (hts _ (by decide +kernel)) h1 hA, h2, Nat.not_le.mp (by obtain ⟨_, _, _, _, _, _, _, h⟩ := h2; exact h)⟩
theorem z_prim {b : Nat} {s : State} {ty : FieldType} (h : (Cond.arrayClass ty).before #[Value.ref b] s = true) : ∃ cA : ClassId, ArrOfT s cA ty ∧ s.vm.findClass ("[" ++ ty.toString) = some cA := by
  obtain ⟨cA, kA, comp, h1, h2, h3⟩ := Cond.arrayClass_spec h
  exact ⟨cA, fun n z => ⟨fun k h => (by cases h), kA, h2, comp, h3⟩, h1⟩
theorem z_obj {b : Nat} {s : State} {C : String} (h : (Cond.arrayOver (.object C)).before #[Value.ref b] s = true) : ∃ cA : ClassId, ArrOfT s cA (.object C) ∧ va_RA s cA (.object C) := by
  obtain ⟨comp, cA, kA, h1, h2, h3, h4, h5⟩ := Cond.arrayOver_spec h
  exact ⟨cA, fun n z => ⟨fun k h => (by cases h), kA, h3, comp, h4⟩, kA, comp, h3, h4, h1, h5⟩
set_option maxHeartbeats 4000000 in
set_option maxRecDepth 100000 in
theorem z_Z {b : Nat} {s : State} (hts : ∀ w ∈ lw_tbl, w.before #[Value.ref b] s = true) (hfl : ∀ w ∈ flatC (Jvm.Cond.and given_1 narrow_1), w.before #[Value.ref b] s = true) (hcur : ∃ cur, s.vm.findClass RX6 = some cur) : x_Z s.heap.size s s.heap := by
  have hA : ∀ a : Nat, a < s.heap.size → ¬ (fun q => s.heap.size ≤ q) a := fun a h => Nat.not_le.mpr h
  have htt : ∀ w ∈ tables_1, w.before #[Value.ref b] s = true := fun w hw => hts w (List.mem_append_right _ hw)
  refine ⟨z_POWERS hts hfl, z_ONCE_TAKEN hts hfl, vx_Zqof (hts _ (by decide +kernel)) (hts _ (by decide +kernel)) (hfl _ (by decide +kernel)) hA, vx_Zqof (hts _ (by decide +kernel)) (hts _ (by decide +kernel)) (hfl _ (by decide +kernel)) hA, ?_, ?_, va_Nc.of (hfl _ (by decide +kernel)), va_Nc.of (hfl _ (by decide +kernel)), ?_⟩
  · intro w hw
    obtain ⟨h1, h2⟩ := List.mem_filter.mp hw
    exact va_Nw.of (x_Nws_on h2) (htt w h1)
  · intro q hq
    obtain ⟨w, hw, hx⟩ := List.mem_filterMap.mp hq
    have hown : ∀ q ∈ x_Strs, q.1 = RX6 := by decide +kernel
    have he : w = Cond.stringRef q.1 q.2.1 q.2.2 := by
      unfold x_isS at hx
      split at hx
      · cases hx; rfl
      · cases hx
    rw [he] at hw
    obtain ⟨cur, hc⟩ := hcur
    obtain ⟨_, _, _, a, _, _, _, _, _, hev⟩ := Cond.stringRef_spec (by rw [hown q hq]; exact hc) (htt _ hw)
    exact ⟨a, vk_R.of (htt _ hw) hev⟩
  · intro C hC
    have h : ∀ C ∈ x_Rs, Cond.arrayOver (.object C) ∈ tables_1 := by decide +kernel
    exact va_AO.of (htt _ (h C hC))
set_option maxHeartbeats 4000000 in
set_option maxRecDepth 100000 in
theorem whole_start {p : Program} {e : Env} {s : State} {m : MethodId} {below : List Frame} {meth : Method} {c : Code} (l : Launch) (hl0 : l.stackTraces = false) {b L : Nat} {xs : Nat → Int32} (hL : L ≤ 5120) (C0 : lw_At p s m meth c b L xs) : W p l e room_1 s m #[Value.ref b] below meth c s.heap [] 0 0 (lw_Z below #[Value.ref b] s) (entryFrame m ([Value.ref b] : List Value).toArray 7) := by
  obtain ⟨hx, hb, hr, hml, hown, hts, hX, hbl, hlocks, hgv⟩ := C0
  have hfl := flat_of_before _ hgv
  have htw : ∀ w ∈ Tw, w.before #[Value.ref b] s = true := fun w hw => hts w (Tw_sub w hw)
  obtain ⟨d0, i0, hK0⟩ := u_known (C := RX0) (T := TX0) (N := 9) (n := 9) htw mi_0 (htw _ mw_418)
  obtain ⟨d1, i1, hK1⟩ := u_known (C := RX1) (T := TX1) (N := 7) (n := 7) htw mi_1 (htw _ mw_554)
  obtain ⟨d2, i2, hK2⟩ := u_known (C := RX2) (T := TX2) (N := 5) (n := 5) htw mi_2 (htw _ mw_35)
  obtain ⟨d3, i3, hK3⟩ := u_known (C := RX3) (T := TX3) (N := 4) (n := 4) htw mi_3 (htw _ mw_57)
  obtain ⟨d4, i4, hK4⟩ := u_known (C := RX4) (T := TX4) (N := 8) (n := 8) htw mi_4 (htw _ mw_194)
  obtain ⟨d5, i5, hK5⟩ := u_known (C := RX5) (T := TX5) (N := 10) (n := 10) htw mi_5 (htw _ mw_129)
  obtain ⟨d6, i6, hK6⟩ := u_known (C := RX6) (T := TX6) (N := 14) (n := 14) htw mi_6 (htw _ mw_17)
  obtain ⟨d7, i7, hK7⟩ := u_known (C := RX7) (T := TX7) (N := 42) (n := 42) htw mi_7 (htw _ mw_681)
  have hcur : ∃ cur, s.vm.findClass RX6 = some cur := ⟨d6, by obtain ⟨_, h⟩ := hK6; first | exact h.1 | exact h.2.1 | (obtain ⟨k, h1, h2⟩ := h; first | exact h1 | exact h2 | exact h2.1)⟩
  obtain ⟨a0, hA0, hF0⟩ := z_prim (htw _ mw_56)
  obtain ⟨a1, hA1, hF1⟩ := z_prim (htw _ mw_814)
  obtain ⟨a2, hA2, hF2⟩ := z_prim (htw _ mw_960)
  obtain ⟨a20, hA20, hF20⟩ := z_obj (C := RX5) (hts _ (List.mem_append_right _ (List.mem_of_getElem? (i := 25) (by decide +kernel))))
  obtain ⟨a21, hA21, hF21⟩ := z_obj (C := RX0) (hts _ (List.mem_append_right _ (List.mem_of_getElem? (i := 27) (by decide +kernel))))
  obtain ⟨a22, hA22, hF22⟩ := z_obj (C := RX3) (hts _ (List.mem_append_right _ (List.mem_of_getElem? (i := 29) (by decide +kernel))))
  obtain ⟨a23, hA23, hF23⟩ := z_obj (C := RX1) (hts _ (List.mem_append_right _ (List.mem_of_getElem? (i := 31) (by decide +kernel))))
  obtain ⟨a24, hA24, hF24⟩ := z_obj (C := RX4) (hts _ (List.mem_append_right _ (List.mem_of_getElem? (i := 33) (by decide +kernel))))
  have hc : CallFix p m c cL_law 7 s #[Value.ref b] Tw RL := ⟨hx, hb, hml, hown, htw⟩
  have hw : x_B (fun k => match k with | 0 => d0 | 1 => d1 | 2 => d2 | 3 => d3 | 4 => d4 | 5 => d5 | 6 => d6 | _ => d7, fun k => match k with | 0 => i0 | 1 => i1 | 2 => i2 | 3 => i3 | 4 => i4 | 5 => i5 | 6 => i6 | _ => i7) (fun k => match k with | 0 => a0 | 1 => a1 | 2 => a2 | 20 => a20 | 21 => a21 | 22 => a22 | 23 => a23 | _ => a24) s.heap.size (fun _ _ => 0) z_n z_n z_σ s s.heap [] := by
    refine ⟨⟨fun k q hq => ?_, fun k q hq => ?_⟩, ⟨fun k i hi => absurd hi (Nat.not_lt_zero _), fun k i k' i' hi => absurd hi (Nat.not_lt_zero _)⟩, va_S.rf, Nat.le_refl _, z_Z hts hfl hcur⟩
    · match k, hq with
      | 0, hq => cases hq; exact hK0
      | 1, hq => cases hq; exact hK1
      | 2, hq => cases hq; exact hK2
      | 3, hq => cases hq; exact hK3
      | 4, hq => cases hq; exact hK4
      | 5, hq => cases hq; exact hK5
      | 6, hq => cases hq; exact hK6
      | 7, hq => cases hq; exact hK7
      | k + 8, hq => simp [vwCl] at hq
    · match k, hq with
      | 0, hq => cases hq; exact ⟨hA0, hF0⟩
      | 1, hq => cases hq; exact ⟨hA1, hF1⟩
      | 2, hq => cases hq; exact ⟨hA2, hF2⟩
      | 3, hq => cases hq; exact ⟨hA20, hF20⟩
      | 4, hq => cases hq; exact ⟨hA21, hF21⟩
      | 5, hq => cases hq; exact ⟨hA22, hF22⟩
      | 6, hq => cases hq; exact ⟨hA23, hF23⟩
      | 7, hq => cases hq; exact ⟨hA24, hF24⟩
      | k + 8, hq => simp [x_tys] at hq
  have hl := lv_entry ([.ref b]) (n := 7) (Nat.le_of_ble_eq_true rfl)
  rw [lg_entry_eq]
  generalize (lg_sl ([.ref b]) ++ List.replicate (7 - (lg_sl ([.ref b])).length) Slot.unset).toArray = ls at hl ⊢
  have hl : lv_has ls 7 [(0, .ref b)] := hl
  generalize (fun _ _ => 0 : Nat → Nat → Nat) = ad at hw
  refine xn_obj hc hw 6 0 rfl rfl rfl (rfl) (Nat.le_of_eq rfl) (x_rkA (by decide)) (x_unst6) mw_16 mw_17 mw_1 (Nat.le_of_ble_eq_true rfl) (Nat.le_of_ble_eq_true rfl) dL_law_0 (fun ad_0 H hag_0 hw => ?_)
  have hl : lv_has ls 7 [(0, .ref b)] := hl
  refine lv_dup hx hb dL_law_3 rfl ?_
  refine xc_Iv hc hw (c_X6_init Nat.zero_lt_one rfl rfl rfl rfl rfl rfl rfl rfl rfl rfl rfl rfl rfl rfl rfl rfl rfl rfl rfl rfl rfl rfl rfl rfl rfl rfl rfl rfl rfl rfl rfl) mw_20 mw_18 mw_1 mw_19 rfl xd_X6_init ⟨by decide, by decide⟩ (rfl) hl.1 (Nat.le_of_ble_eq_true rfl) dL_law_4 ⟨Nat.le_of_ble_eq_true rfl, Nat.le_of_ble_eq_true rfl⟩ (fun ad_4 H locs hag_4 hw => ?_)
  have hl : lv_has ls 7 [(0, .ref b)] := hl
  rw [← hag_4 6 0 (Nat.zero_lt_one)]
  refine lv_astore_n (lv' := [(1, .ref (ad_4 6 0)), (0, .ref b)]) hx hb dL_law_7 rfl hl (by decide) rfl (fun ls hl => ?_)
  refine xn_obj hc hw 7 0 rfl rfl rfl (rfl) (Nat.le_of_eq rfl) (x_rkA (by decide)) (x_unst7) mw_680 mw_681 mw_4 (Nat.le_of_ble_eq_true rfl) (Nat.le_of_ble_eq_true rfl) dL_law_8 (fun ad_8 H hag_8 hw => ?_)
  have hl : lv_has ls 7 [(1, .ref (ad_8 6 0)), (0, .ref b)] := by rw [hag_8 6 0 (fun z => absurd z.1 (by decide))]; exact hl
  refine lv_dup hx hb dL_law_11 rfl ?_
  refine xc_Iv hc hw (c_X7_init 0 Nat.zero_lt_one rfl rfl rfl rfl rfl rfl rfl rfl rfl rfl rfl rfl rfl rfl rfl rfl rfl rfl rfl rfl rfl rfl rfl rfl rfl rfl rfl rfl rfl rfl rfl rfl rfl rfl rfl rfl rfl rfl rfl rfl rfl rfl rfl rfl rfl rfl rfl rfl rfl rfl rfl rfl rfl rfl rfl rfl rfl rfl rfl rfl rfl rfl rfl rfl rfl rfl rfl rfl) mw_684 mw_682 mw_4 mw_683 rfl xd_X7_init ⟨by decide, by decide⟩ (rfl) hl.1 (Nat.le_of_ble_eq_true rfl) dL_law_12 ⟨Nat.le_of_ble_eq_true rfl, Nat.le_of_ble_eq_true rfl⟩ (fun ad_12 H locs hag_12 hw => ?_)
  have hl : lv_has ls 7 [(1, .ref (ad_12 6 0)), (0, .ref b)] := by rw [hag_12 6 0 (Nat.zero_lt_one)]; exact hl
  rw [← hag_12 7 0 (Nat.zero_lt_one)]
  refine lv_astore_n (lv' := [(2, .ref (ad_12 7 0)), (1, .ref (ad_12 6 0)), (0, .ref b)]) hx hb dL_law_15 rfl hl (by decide) rfl (fun ls hl => ?_)
  refine lv_iconst (v := 1) hx hb dL_law_16 (by decide) ?_
  refine xn_larr hc hw (rfl) (rfl) rfl (Nat.le_of_ble_eq_true rfl) (Nat.le_of_ble_eq_true rfl) dL_law_17 (fun ad_17 H hag_17 hw => ?_)
  have hl : lv_has ls 7 [(2, .ref (ad_17 7 0)), (1, .ref (ad_17 6 0)), (0, .ref b)] := by rw [hag_17 7 0 (fun z => absurd z.1 (by decide)), hag_17 6 0 (fun z => absurd z.1 (by decide))]; exact hl
  refine lv_astore_n (lv' := [(3, .ref (ad_17 8 0)), (2, .ref (ad_17 7 0)), (1, .ref (ad_17 6 0)), (0, .ref b)]) hx hb dL_law_19 rfl hl (by decide) rfl (fun ls hl => ?_)
  refine lv_iconst (v := 0) hx hb dL_law_20 (by decide) ?_
  refine lv_istore (lv' := [(4, .int 0), (3, .ref (ad_17 8 0)), (2, .ref (ad_17 7 0)), (1, .ref (ad_17 6 0)), (0, .ref b)]) hx hb dL_law_21 hl (by decide) rfl (fun ls hl => ?_)
  rw [x_n0, x_s0] at hw
  have hwid : 0 + 55 ≤ 55 ∧ 0 + 184254 ≤ 184254 := ⟨by decide, by decide⟩
  refine W.widen (k := 55 + 40 * 0) (n := 184254 + 400 * 0) (by decide) (by decide) ?_
  exact lw_loop (c0 := 55) (s0 := 184254) hl0 hx hb hr hlocks hc hX hbl hL (by decide) (by decide) 513 0 _ 0 0 0 0 _ _ _ _ (by decide) (by decide) x_R0 (lv_sub hl [4, 3, 2, 1, 0] rfl) hw
