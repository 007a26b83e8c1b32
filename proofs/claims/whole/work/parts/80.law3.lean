theorem x_lc0 (x : Int64) : lg_cmp x x = 0 := by simp [lg_cmp]

set_option maxHeartbeats 4000000 in
set_option maxRecDepth 100000 in
theorem lc_shell {p : Program} {l : Launch} {e : Env} {s : State} {m : MethodId} {below : List Frame} {meth : Method} {c : Code} {b L : Nat} {xs : Nat → Int32} {D : va_G} {cs : Nat → ClassId} {base : Nat} {ad : Nat → Nat → Nat} {nS nB nC nO : Nat} {σ : x_St} {H : Heap} {locs : List Loc} {cells slots : Nat} {ls : Array Slot} {t : Nat} {Q : State → Prop} (hl0 : l.stackTraces = false) (hx : p.tables.exec = Jvm.exec) (hb : c.code = cL_law) (hc : CallFix p m c cL_law 7 s #[Value.ref b] Tw RL) (hX_b : va_X b L xs s s.heap) (hX2_b : b < base) (hL : L ≤ 5120) (ht : 10 * t + 10 ≤ L) (hce : cells + 40 ≤ 601024) (hsl : slots + 400 ≤ 7293034) (hR : Rl σ nS nB nC nO t) (hl : lv_has ls 7 [(0, .ref b), (1, .ref (ad 6 0)), (2, .ref (ad 7 0)), (3, .ref (ad 8 0)), (4, .int (nI (10 * t)))]) (hw : x_B D cs base ad (x_n nS nB nC nO) (x_s nS nB nC nO nS nC) σ s H locs)
    (cut_1602 : ∀ (ad' : Nat → Nat → Nat) (nS nB nC nO : Nat) (σ' : x_St), Rl σ' nS nB nC nO (t + 1) → ∀ (H : Heap) (locs : List Loc) (ls : Array Slot), lv_has ls 7 [(0, .ref b), (1, .ref (ad' 6 0)), (2, .ref (ad' 7 0)), (3, .ref (ad' 8 0)), (4, .int (nI (10 * t)))] → x_B D cs base ad' (x_n nS nB nC nO) (x_s nS nB nC nO nS nC) σ' s H locs → W p l e room_1 s m #[Value.ref b] below meth c H locs (cells + 40) (slots + 400) Q (F0 m 1602 ls [])) : W p l e room_1 s m #[Value.ref b] below meth c H locs cells slots Q (F0 m 136 ls []) := by
  refine lv_aload_n hx hb dL_law_136 rfl (lv_at hl 1 rfl) ?_
  refine lv_aload_n hx hb dL_law_137 rfl (lv_at hl 0 rfl) ?_
  refine lv_iload hx hb dL_law_138 (lv_at hl 4 rfl) ?_
  refine lv_iconst (v := 1) hx hb dL_law_140 (by decide) ?_
  refine lv_iadd hx hb dL_law_141 ?_
  refine xs_ld (j := 10 * t + 1) hc hw hX_b hX2_b (nI_add (10 * t) 1) (by omega) (by omega) dL_law_142 ?_
  refine lv_aload_n hx hb dL_law_143 rfl (lv_at hl 0 rfl) ?_
  refine lv_iload hx hb dL_law_144 (lv_at hl 4 rfl) ?_
  refine lv_iconst (v := 2) hx hb dL_law_146 (by decide) ?_
  refine lv_iadd hx hb dL_law_147 ?_
  refine xs_ld (j := 10 * t + 2) hc hw hX_b hX2_b (nI_add (10 * t) 2) (by omega) (by omega) dL_law_148 ?_
  refine lv_aload_n hx hb dL_law_149 rfl (lv_at hl 0 rfl) ?_
  refine lv_iload hx hb dL_law_150 (lv_at hl 4 rfl) ?_
  refine lv_iconst (v := 3) hx hb dL_law_152 (by decide) ?_
  refine lv_iadd hx hb dL_law_153 ?_
  refine xs_ld (j := 10 * t + 3) hc hw hX_b hX2_b (nI_add (10 * t) 3) (by omega) (by omega) dL_law_154 ?_
  refine lv_aload_n hx hb dL_law_155 rfl (lv_at hl 0 rfl) ?_
  refine lv_iload hx hb dL_law_156 (lv_at hl 4 rfl) ?_
  refine lv_iconst (v := 4) hx hb dL_law_158 (by decide) ?_
  refine lv_iadd hx hb dL_law_159 ?_
  refine xs_ld (j := 10 * t + 4) hc hw hX_b hX2_b (nI_add (10 * t) 4) (by omega) (by omega) dL_law_160 ?_
  refine lv_aload_n hx hb dL_law_161 rfl (lv_at hl 0 rfl) ?_
  refine lv_iload hx hb dL_law_162 (lv_at hl 4 rfl) ?_
  refine lv_iconst (v := 5) hx hb dL_law_164 (by decide) ?_
  refine lv_iadd hx hb dL_law_165 ?_
  refine xs_ld (j := 10 * t + 5) hc hw hX_b hX2_b (nI_add (10 * t) 5) (by omega) (by omega) dL_law_166 ?_
  refine lv_aload_n hx hb dL_law_167 rfl (lv_at hl 0 rfl) ?_
  refine lv_iload hx hb dL_law_168 (lv_at hl 4 rfl) ?_
  refine lv_bipush (v := 6) hx hb dL_law_170 (by decide) ?_
  refine lv_iadd hx hb dL_law_172 ?_
  refine xs_ld (j := 10 * t + 6) hc hw hX_b hX2_b (nI_add (10 * t) 6) (by omega) (by omega) dL_law_173 ?_
  refine lv_aload_n hx hb dL_law_174 rfl (lv_at hl 0 rfl) ?_
  refine lv_iload hx hb dL_law_175 (lv_at hl 4 rfl) ?_
  refine lv_bipush (v := 7) hx hb dL_law_177 (by decide) ?_
  refine lv_iadd hx hb dL_law_179 ?_
  refine xs_ld (j := 10 * t + 7) hc hw hX_b hX2_b (nI_add (10 * t) 7) (by omega) (by omega) dL_law_180 ?_
  refine lv_aload_n hx hb dL_law_181 rfl (lv_at hl 0 rfl) ?_
  refine lv_iload hx hb dL_law_182 (lv_at hl 4 rfl) ?_
  refine lv_bipush (v := 8) hx hb dL_law_184 (by decide) ?_
  refine lv_iadd hx hb dL_law_186 ?_
  refine xs_ld (j := 10 * t + 8) hc hw hX_b hX2_b (nI_add (10 * t) 8) (by omega) (by omega) dL_law_187 ?_
  refine lv_aload_n hx hb dL_law_188 rfl (lv_at hl 0 rfl) ?_
  refine lv_iload hx hb dL_law_189 (lv_at hl 4 rfl) ?_
  refine lv_bipush (v := 9) hx hb dL_law_191 (by decide) ?_
  refine lv_iadd hx hb dL_law_193 ?_
  refine xs_ld (j := 10 * t + 9) hc hw hX_b hX2_b (nI_add (10 * t) 9) (by omega) (by omega) dL_law_194 ?_
  refine xc_Vi hc hw 6 0 (c_X6_shell (xs (10 * t + 1)) (xs (10 * t + 2)) (xs (10 * t + 3)) (xs (10 * t + 4)) (xs (10 * t + 5)) (xs (10 * t + 6)) (xs (10 * t + 7)) (xs (10 * t + 8)) (xs (10 * t + 9)) hR.K.S hR.K.S0) rfl rfl (Nat.zero_lt_one) mw_125 mw_122 mw_1 mw_123 mw_124 xd_X6_shell ⟨by decide, by decide⟩ (rfl) hl.1 (Nat.le_of_ble_eq_true rfl) dL_law_195 ⟨by show _ ≤ 601024; omega, by show _ ≤ 7293034; omega⟩ (fun r_195 σ_195 H locs hq hw => ?_)
  obtain ⟨ad_195, m_195, σ_195⟩ := σ_195
  have hq_195 := hq
  have hag_195 : ∀ a b, b < (x_n nS nB nC nO) a → ad_195 a b = ad a b := hq.1
  replace hw : x_B D cs base ad_195 (x_n m_195 nB nC nO) (x_s m_195 nB nC nO m_195 nC) σ_195 s H locs := hw
  have hl : lv_has ls 7 [(0, .ref b), (1, .ref (ad_195 6 0)), (2, .ref (ad_195 7 0)), (3, .ref (ad_195 8 0)), (4, .int (nI (10 * t)))] := by rw [hag_195 6 0 (Nat.zero_lt_one), hag_195 7 0 (Nat.zero_lt_one), hag_195 8 0 (Nat.zero_lt_one)]; exact hl
  obtain ⟨hkp, hst⟩ := sp_shell hR (by omega) hq_195
  have hRm := hR.rm.mv hkp
  refine lv_aload_n hx hb dL_law_198 rfl (lv_at hl 2 rfl) ?_
  refine lv_aload_n hx hb dL_law_199 rfl (lv_at hl 0 rfl) ?_
  refine lv_iload hx hb dL_law_200 (lv_at hl 4 rfl) ?_
  refine lv_iconst (v := 1) hx hb dL_law_202 (by decide) ?_
  refine lv_iadd hx hb dL_law_203 ?_
  refine xs_ld (j := 10 * t + 1) hc hw hX_b hX2_b (nI_add (10 * t) 1) (by omega) (by omega) dL_law_204 ?_
  refine lv_aload_n hx hb dL_law_205 rfl (lv_at hl 0 rfl) ?_
  refine lv_iload hx hb dL_law_206 (lv_at hl 4 rfl) ?_
  refine lv_iconst (v := 2) hx hb dL_law_208 (by decide) ?_
  refine lv_iadd hx hb dL_law_209 ?_
  refine xs_ld (j := 10 * t + 2) hc hw hX_b hX2_b (nI_add (10 * t) 2) (by omega) (by omega) dL_law_210 ?_
  refine lv_aload_n hx hb dL_law_211 rfl (lv_at hl 0 rfl) ?_
  refine lv_iload hx hb dL_law_212 (lv_at hl 4 rfl) ?_
  refine lv_iconst (v := 3) hx hb dL_law_214 (by decide) ?_
  refine lv_iadd hx hb dL_law_215 ?_
  refine xs_ld (j := 10 * t + 3) hc hw hX_b hX2_b (nI_add (10 * t) 3) (by omega) (by omega) dL_law_216 ?_
  refine lv_aload_n hx hb dL_law_217 rfl (lv_at hl 0 rfl) ?_
  refine lv_iload hx hb dL_law_218 (lv_at hl 4 rfl) ?_
  refine lv_iconst (v := 4) hx hb dL_law_220 (by decide) ?_
  refine lv_iadd hx hb dL_law_221 ?_
  refine xs_ld (j := 10 * t + 4) hc hw hX_b hX2_b (nI_add (10 * t) 4) (by omega) (by omega) dL_law_222 ?_
  refine lv_aload_n hx hb dL_law_223 rfl (lv_at hl 0 rfl) ?_
  refine lv_iload hx hb dL_law_224 (lv_at hl 4 rfl) ?_
  refine lv_iconst (v := 5) hx hb dL_law_226 (by decide) ?_
  refine lv_iadd hx hb dL_law_227 ?_
  refine xs_ld (j := 10 * t + 5) hc hw hX_b hX2_b (nI_add (10 * t) 5) (by omega) (by omega) dL_law_228 ?_
  refine lv_aload_n hx hb dL_law_229 rfl (lv_at hl 0 rfl) ?_
  refine lv_iload hx hb dL_law_230 (lv_at hl 4 rfl) ?_
  refine lv_bipush (v := 6) hx hb dL_law_232 (by decide) ?_
  refine lv_iadd hx hb dL_law_234 ?_
  refine xs_ld (j := 10 * t + 6) hc hw hX_b hX2_b (nI_add (10 * t) 6) (by omega) (by omega) dL_law_235 ?_
  refine lv_aload_n hx hb dL_law_236 rfl (lv_at hl 0 rfl) ?_
  refine lv_iload hx hb dL_law_237 (lv_at hl 4 rfl) ?_
  refine lv_bipush (v := 7) hx hb dL_law_239 (by decide) ?_
  refine lv_iadd hx hb dL_law_241 ?_
  refine xs_ld (j := 10 * t + 7) hc hw hX_b hX2_b (nI_add (10 * t) 7) (by omega) (by omega) dL_law_242 ?_
  refine lv_aload_n hx hb dL_law_243 rfl (lv_at hl 0 rfl) ?_
  refine lv_iload hx hb dL_law_244 (lv_at hl 4 rfl) ?_
  refine lv_bipush (v := 8) hx hb dL_law_246 (by decide) ?_
  refine lv_iadd hx hb dL_law_248 ?_
  refine xs_ld (j := 10 * t + 8) hc hw hX_b hX2_b (nI_add (10 * t) 8) (by omega) (by omega) dL_law_249 ?_
  refine lv_aload_n hx hb dL_law_250 rfl (lv_at hl 0 rfl) ?_
  refine lv_iload hx hb dL_law_251 (lv_at hl 4 rfl) ?_
  refine lv_bipush (v := 9) hx hb dL_law_253 (by decide) ?_
  refine lv_iadd hx hb dL_law_255 ?_
  refine xs_ld (j := 10 * t + 9) hc hw hX_b hX2_b (nI_add (10 * t) 9) (by omega) (by omega) dL_law_256 ?_
  refine xc_Vi hc hw 7 0 (c_X7_shell (xs (10 * t + 1)) (xs (10 * t + 2)) (xs (10 * t + 3)) (xs (10 * t + 4)) (xs (10 * t + 5)) (xs (10 * t + 6)) (xs (10 * t + 7)) (xs (10 * t + 8)) (xs (10 * t + 9)) nS hRm.S hR.K.S0 Nat.zero_lt_one x_hm) rfl rfl (Nat.zero_lt_one) mw_822 mw_819 mw_4 mw_820 mw_821 xd_X7_shell ⟨by decide, by decide⟩ (rfl) hl.1 (Nat.le_of_ble_eq_true rfl) dL_law_257 ⟨by show _ ≤ 601024; omega, by show _ ≤ 7293034; omega⟩ (fun r_257 σ_257 H locs hq hw => ?_)
  have hq_257 := hq
  obtain ⟨e1, hRn⟩ := hst _ _ hq_257
  refine lv_icmp_eq (tgt := 1602) hx hb dL_law_260 (by decide) (fun c_260 => ?_) (fun c_260 => ?_)
  · refine W.widen (k := cells + 40) (n := slots + 400) (by omega) (by omega) ?_
    exact cut_1602 _ _ _ _ _ _ hRn _ _ _ (lv_sub hl [0, 1, 2, 3, 4] rfl) hw
  · exact absurd c_260 (not_not_intro e1)
set_option maxHeartbeats 4000000 in
set_option maxRecDepth 100000 in
theorem lc_shellOf {p : Program} {l : Launch} {e : Env} {s : State} {m : MethodId} {below : List Frame} {meth : Method} {c : Code} {b L : Nat} {xs : Nat → Int32} {D : va_G} {cs : Nat → ClassId} {base : Nat} {ad : Nat → Nat → Nat} {nS nB nC nO : Nat} {σ : x_St} {H : Heap} {locs : List Loc} {cells slots : Nat} {ls : Array Slot} {t : Nat} {Q : State → Prop} (hl0 : l.stackTraces = false) (hx : p.tables.exec = Jvm.exec) (hb : c.code = cL_law) (hc : CallFix p m c cL_law 7 s #[Value.ref b] Tw RL) (hX_b : va_X b L xs s s.heap) (hX2_b : b < base) (hL : L ≤ 5120) (ht : 10 * t + 10 ≤ L) (hce : cells + 40 ≤ 601024) (hsl : slots + 400 ≤ 7293034) (hR : Rl σ nS nB nC nO t) (hl : lv_has ls 7 [(0, .ref b), (1, .ref (ad 6 0)), (2, .ref (ad 7 0)), (3, .ref (ad 8 0)), (4, .int (nI (10 * t)))]) (hw : x_B D cs base ad (x_n nS nB nC nO) (x_s nS nB nC nO nS nC) σ s H locs)
    (cut_1602 : ∀ (ad' : Nat → Nat → Nat) (nS nB nC nO : Nat) (σ' : x_St), Rl σ' nS nB nC nO (t + 1) → ∀ (H : Heap) (locs : List Loc) (ls : Array Slot), lv_has ls 7 [(0, .ref b), (1, .ref (ad' 6 0)), (2, .ref (ad' 7 0)), (3, .ref (ad' 8 0)), (4, .int (nI (10 * t)))] → x_B D cs base ad' (x_n nS nB nC nO) (x_s nS nB nC nO nS nC) σ' s H locs → W p l e room_1 s m #[Value.ref b] below meth c H locs (cells + 40) (slots + 400) Q (F0 m 1602 ls [])) : W p l e room_1 s m #[Value.ref b] below meth c H locs cells slots Q (F0 m 265 ls []) := by
  refine lv_aload_n hx hb dL_law_265 rfl (lv_at hl 1 rfl) ?_
  refine lv_aload_n hx hb dL_law_266 rfl (lv_at hl 0 rfl) ?_
  refine lv_iload hx hb dL_law_267 (lv_at hl 4 rfl) ?_
  refine lv_iconst (v := 1) hx hb dL_law_269 (by decide) ?_
  refine lv_iadd hx hb dL_law_270 ?_
  refine xs_ld (j := 10 * t + 1) hc hw hX_b hX2_b (nI_add (10 * t) 1) (by omega) (by omega) dL_law_271 ?_
  refine lv_aload_n hx hb dL_law_272 rfl (lv_at hl 0 rfl) ?_
  refine lv_iload hx hb dL_law_273 (lv_at hl 4 rfl) ?_
  refine lv_iconst (v := 2) hx hb dL_law_275 (by decide) ?_
  refine lv_iadd hx hb dL_law_276 ?_
  refine xs_ld (j := 10 * t + 2) hc hw hX_b hX2_b (nI_add (10 * t) 2) (by omega) (by omega) dL_law_277 ?_
  refine lv_aload_n hx hb dL_law_278 rfl (lv_at hl 3 rfl) ?_
  refine xc_Wi hc hw (c_L_shellOf hl0 (xs (10 * t + 1)) (xs (10 * t + 2)) hR.K.S hR.K.S0) mw_233 mw_231 mw_0 mw_232 xd_L_shellOf ⟨by decide, by decide⟩ (rfl) hl.1 (Nat.le_of_ble_eq_true rfl) dL_law_279 ⟨by show _ ≤ 601024; omega, by show _ ≤ 7293034; omega⟩ (fun r_279 σ_279 H locs hq hw => ?_)
  have hq_279 := hq
  obtain ⟨hkp, hst⟩ := sp_shellOf hR hq_279
  have hRm := hR.rm.mv hkp
  refine lv_istore (lv' := [(5, .int r_279), (0, .ref b), (1, .ref (ad 6 0)), (2, .ref (ad 7 0)), (3, .ref (ad 8 0)), (4, .int (nI (10 * t)))]) hx hb dL_law_282 hl (by decide) rfl (fun ls hl => ?_)
  refine lv_aload_n hx hb dL_law_284 rfl (lv_at hl 3 rfl) ?_
  refine lv_aload_n hx hb dL_law_285 rfl (lv_at hl 1 rfl) ?_
  refine lv_iload hx hb dL_law_286 (lv_at hl 5 rfl) ?_
  refine lv_iconst (v := 1) hx hb dL_law_288 (by decide) ?_
  refine lv_iadd hx hb dL_law_289 ?_
  refine xs_ld (j := 10 * t + 1) hc hw hX_b hX2_b (nI_add (10 * t) 1) (by omega) (by omega) dL_law_290 ?_
  refine lv_aload_n hx hb dL_law_291 rfl (lv_at hl 1 rfl) ?_
  refine lv_iload hx hb dL_law_292 (lv_at hl 5 rfl) ?_
  refine lv_iconst (v := 2) hx hb dL_law_294 (by decide) ?_
  refine lv_iadd hx hb dL_law_295 ?_
  refine xs_ld (j := 10 * t + 2) hc hw hX_b hX2_b (nI_add (10 * t) 2) (by omega) (by omega) dL_law_296 ?_
  refine xc_Vi hc hw 7 0 (c_X7_shellOf (xs (10 * t + 1)) (xs (10 * t + 2)) nS hRm.S hR.K.S0 Nat.zero_lt_one x_hm) rfl rfl (Nat.zero_lt_one) mw_826 mw_823 mw_4 mw_824 mw_825 xd_X7_shellOf ⟨by decide, by decide⟩ (rfl) hl.1 (Nat.le_of_ble_eq_true rfl) dL_law_297 ⟨by show _ ≤ 601024; omega, by show _ ≤ 7293034; omega⟩ (fun r_297 σ_297 H locs hq hw => ?_)
  have hq_297 := hq
  obtain ⟨e1, e2, hRn⟩ := hst _ _ hq_297
  refine lv_istore (lv' := [(6, .int r_297), (5, .int r_279), (0, .ref b), (1, .ref (ad 6 0)), (2, .ref (ad 7 0)), (3, .ref (ad 8 0)), (4, .int (nI (10 * t)))]) hx hb dL_law_300 hl (by decide) rfl (fun ls hl => ?_)
  refine lv_aload_n hx hb dL_law_302 rfl (lv_at hl 4 rfl) ?_
  refine xc_Vi hc hw 7 0 (c_X7_thrown Nat.zero_lt_one x_hm) rfl rfl (Nat.zero_lt_one) mw_818 mw_815 mw_4 mw_816 mw_817 xd_X7_thrown ⟨by decide, by decide⟩ (rfl) hl.1 (Nat.le_of_ble_eq_true rfl) dL_law_303 ⟨by show _ ≤ 601024; omega, by show _ ≤ 7293034; omega⟩ (fun r_303 σ_303 H locs hq hw => ?_)
  obtain ⟨hσ_303, hr_303⟩ := hq
  rw [hσ_303] at hw
  refine lv_iload hx hb dL_law_306 (lv_at hl 1 rfl) ?_
  refine lv_icmp_eq (tgt := 313) hx hb dL_law_308 (by decide) (fun c_308 => ?_) (fun c_308 => ?_)
  · refine lv_iload hx hb dL_law_313 (lv_at hl 1 rfl) ?_
    refine lv_if_ne (tgt := 330) hx hb dL_law_315 (by decide) (fun c_315 => ?_) (fun c_315 => ?_)
    · refine lv_goto (tgt := 1602) hx hb dL_law_330 (by decide) ?_
      refine W.widen (k := cells + 40) (n := slots + 400) (by omega) (by omega) ?_
      exact cut_1602 _ _ _ _ _ _ hRn _ _ _ (lv_sub hl [2, 3, 4, 5, 6] rfl) hw
    · refine lv_aload_n hx hb dL_law_318 rfl (lv_at hl 5 rfl) ?_
      refine lv_iconst (v := 0) hx hb dL_law_319 (by decide) ?_
      refine xl_ld (j := 0) hc hw (Nat.zero_lt_one) rfl (by decide) dL_law_320 ?_
      refine lv_iload hx hb dL_law_321 (lv_at hl 0 rfl) ?_
      refine lv_i2l hx hb dL_law_323 rfl ?_
      refine W.lcmp hx hb dL_law_324 ?_
      refine lv_if_eq (tgt := 330) hx hb dL_law_325 (by decide) (fun c_325 => ?_) (fun c_325 => ?_)
      · refine lv_goto (tgt := 1602) hx hb dL_law_330 (by decide) ?_
        refine W.widen (k := cells + 40) (n := slots + 400) (by omega) (by omega) ?_
        exact cut_1602 _ _ _ _ _ _ hRn _ _ _ (lv_sub hl [2, 3, 4, 5, 6] rfl) hw
      · exact absurd c_325 (not_not_intro (by rw [e2 c_315]; exact x_lc0 _))
  · exact absurd c_308 (not_not_intro (hr_303.trans e1))
set_option maxHeartbeats 4000000 in
set_option maxRecDepth 100000 in
theorem lc_list {p : Program} {l : Launch} {e : Env} {s : State} {m : MethodId} {below : List Frame} {meth : Method} {c : Code} {b L : Nat} {xs : Nat → Int32} {D : va_G} {cs : Nat → ClassId} {base : Nat} {ad : Nat → Nat → Nat} {nS nB nC nO : Nat} {σ : x_St} {H : Heap} {locs : List Loc} {cells slots : Nat} {ls : Array Slot} {t : Nat} {Q : State → Prop} (hl0 : l.stackTraces = false) (hx : p.tables.exec = Jvm.exec) (hb : c.code = cL_law) (hc : CallFix p m c cL_law 7 s #[Value.ref b] Tw RL) (hX_b : va_X b L xs s s.heap) (hX2_b : b < base) (hL : L ≤ 5120) (ht : 10 * t + 10 ≤ L) (hce : cells + 40 ≤ 601024) (hsl : slots + 400 ≤ 7293034) (hR : Rl σ nS nB nC nO t) (hl : lv_has ls 7 [(0, .ref b), (1, .ref (ad 6 0)), (2, .ref (ad 7 0)), (3, .ref (ad 8 0)), (4, .int (nI (10 * t)))]) (hw : x_B D cs base ad (x_n nS nB nC nO) (x_s nS nB nC nO nS nC) σ s H locs)
    (cut_1602 : ∀ (ad' : Nat → Nat → Nat) (nS nB nC nO : Nat) (σ' : x_St), Rl σ' nS nB nC nO (t + 1) → ∀ (H : Heap) (locs : List Loc) (ls : Array Slot), lv_has ls 7 [(0, .ref b), (1, .ref (ad' 6 0)), (2, .ref (ad' 7 0)), (3, .ref (ad' 8 0)), (4, .int (nI (10 * t)))] → x_B D cs base ad' (x_n nS nB nC nO) (x_s nS nB nC nO nS nC) σ' s H locs → W p l e room_1 s m #[Value.ref b] below meth c H locs (cells + 40) (slots + 400) Q (F0 m 1602 ls [])) : W p l e room_1 s m #[Value.ref b] below meth c H locs cells slots Q (F0 m 333 ls []) := by
  refine lv_aload_n hx hb dL_law_333 rfl (lv_at hl 1 rfl) ?_
  refine lv_aload_n hx hb dL_law_334 rfl (lv_at hl 0 rfl) ?_
  refine lv_iload hx hb dL_law_335 (lv_at hl 4 rfl) ?_
  refine lv_iconst (v := 1) hx hb dL_law_337 (by decide) ?_
  refine lv_iadd hx hb dL_law_338 ?_
  refine xs_ld (j := 10 * t + 1) hc hw hX_b hX2_b (nI_add (10 * t) 1) (by omega) (by omega) dL_law_339 ?_
  refine lv_aload_n hx hb dL_law_340 rfl (lv_at hl 0 rfl) ?_
  refine lv_iload hx hb dL_law_341 (lv_at hl 4 rfl) ?_
  refine lv_iconst (v := 2) hx hb dL_law_343 (by decide) ?_
  refine lv_iadd hx hb dL_law_344 ?_
  refine xs_ld (j := 10 * t + 2) hc hw hX_b hX2_b (nI_add (10 * t) 2) (by omega) (by omega) dL_law_345 ?_
  refine lv_aload_n hx hb dL_law_346 rfl (lv_at hl 0 rfl) ?_
  refine lv_iload hx hb dL_law_347 (lv_at hl 4 rfl) ?_
  refine lv_iconst (v := 3) hx hb dL_law_349 (by decide) ?_
  refine lv_iadd hx hb dL_law_350 ?_
  refine xs_ld (j := 10 * t + 3) hc hw hX_b hX2_b (nI_add (10 * t) 3) (by omega) (by omega) dL_law_351 ?_
  refine lv_aload_n hx hb dL_law_352 rfl (lv_at hl 3 rfl) ?_
  refine xc_Wi hc hw (c_L_list hl0 (xs (10 * t + 1)) (xs (10 * t + 2)) (xs (10 * t + 3))) mw_313 mw_311 mw_0 mw_312 xd_L_list ⟨by decide, by decide⟩ (rfl) hl.1 (Nat.le_of_ble_eq_true rfl) dL_law_353 ⟨by show _ ≤ 601024; omega, by show _ ≤ 7293034; omega⟩ (fun r_353 σ_353 H locs hq hw => ?_)
  have hq_353 := hq
  obtain ⟨hkp, hst⟩ := sp_list hR (by omega) hq_353
  have hRm := hR.rm.mv hkp
  refine lv_istore (lv' := [(5, .int r_353), (0, .ref b), (1, .ref (ad 6 0)), (2, .ref (ad 7 0)), (3, .ref (ad 8 0)), (4, .int (nI (10 * t)))]) hx hb dL_law_356 hl (by decide) rfl (fun ls hl => ?_)
  refine lv_aload_n hx hb dL_law_358 rfl (lv_at hl 3 rfl) ?_
  refine lv_aload_n hx hb dL_law_359 rfl (lv_at hl 1 rfl) ?_
  refine lv_iload hx hb dL_law_360 (lv_at hl 5 rfl) ?_
  refine lv_iconst (v := 1) hx hb dL_law_362 (by decide) ?_
  refine lv_iadd hx hb dL_law_363 ?_
  refine xs_ld (j := 10 * t + 1) hc hw hX_b hX2_b (nI_add (10 * t) 1) (by omega) (by omega) dL_law_364 ?_
  refine lv_aload_n hx hb dL_law_365 rfl (lv_at hl 1 rfl) ?_
  refine lv_iload hx hb dL_law_366 (lv_at hl 5 rfl) ?_
  refine lv_iconst (v := 2) hx hb dL_law_368 (by decide) ?_
  refine lv_iadd hx hb dL_law_369 ?_
  refine xs_ld (j := 10 * t + 2) hc hw hX_b hX2_b (nI_add (10 * t) 2) (by omega) (by omega) dL_law_370 ?_
  refine lv_aload_n hx hb dL_law_371 rfl (lv_at hl 1 rfl) ?_
  refine lv_iload hx hb dL_law_372 (lv_at hl 5 rfl) ?_
  refine lv_iconst (v := 3) hx hb dL_law_374 (by decide) ?_
  refine lv_iadd hx hb dL_law_375 ?_
  refine xs_ld (j := 10 * t + 3) hc hw hX_b hX2_b (nI_add (10 * t) 3) (by omega) (by omega) dL_law_376 ?_
  refine xc_Vi hc hw 7 0 (c_X7_list (xs (10 * t + 1)) (xs (10 * t + 2)) (xs (10 * t + 3)) Nat.zero_lt_one x_hm) rfl rfl (Nat.zero_lt_one) mw_838 mw_835 mw_4 mw_836 mw_837 xd_X7_list ⟨by decide, by decide⟩ (rfl) hl.1 (Nat.le_of_ble_eq_true rfl) dL_law_377 ⟨by show _ ≤ 601024; omega, by show _ ≤ 7293034; omega⟩ (fun r_377 σ_377 H locs hq hw => ?_)
  have hq_377 := hq
  obtain ⟨e1, e2, hRn⟩ := hst _ _ hq_377
  refine lv_istore (lv' := [(6, .int r_377), (5, .int r_353), (0, .ref b), (1, .ref (ad 6 0)), (2, .ref (ad 7 0)), (3, .ref (ad 8 0)), (4, .int (nI (10 * t)))]) hx hb dL_law_380 hl (by decide) rfl (fun ls hl => ?_)
  refine lv_aload_n hx hb dL_law_382 rfl (lv_at hl 4 rfl) ?_
  refine xc_Vi hc hw 7 0 (c_X7_thrown Nat.zero_lt_one x_hm) rfl rfl (Nat.zero_lt_one) mw_818 mw_815 mw_4 mw_816 mw_817 xd_X7_thrown ⟨by decide, by decide⟩ (rfl) hl.1 (Nat.le_of_ble_eq_true rfl) dL_law_383 ⟨by show _ ≤ 601024; omega, by show _ ≤ 7293034; omega⟩ (fun r_383 σ_383 H locs hq hw => ?_)
  obtain ⟨hσ_383, hr_383⟩ := hq
  rw [hσ_383] at hw
  refine lv_iload hx hb dL_law_386 (lv_at hl 1 rfl) ?_
  refine lv_icmp_eq (tgt := 393) hx hb dL_law_388 (by decide) (fun c_388 => ?_) (fun c_388 => ?_)
  · refine lv_iload hx hb dL_law_393 (lv_at hl 1 rfl) ?_
    refine lv_if_ne (tgt := 410) hx hb dL_law_395 (by decide) (fun c_395 => ?_) (fun c_395 => ?_)
    · refine lv_goto (tgt := 1602) hx hb dL_law_410 (by decide) ?_
      refine W.widen (k := cells + 40) (n := slots + 400) (by omega) (by omega) ?_
      exact cut_1602 _ _ _ _ _ _ hRn _ _ _ (lv_sub hl [2, 3, 4, 5, 6] rfl) hw
    · refine lv_aload_n hx hb dL_law_398 rfl (lv_at hl 5 rfl) ?_
      refine lv_iconst (v := 0) hx hb dL_law_399 (by decide) ?_
      refine xl_ld (j := 0) hc hw (Nat.zero_lt_one) rfl (by decide) dL_law_400 ?_
      refine lv_iload hx hb dL_law_401 (lv_at hl 0 rfl) ?_
      refine lv_i2l hx hb dL_law_403 rfl ?_
      refine W.lcmp hx hb dL_law_404 ?_
      refine lv_if_eq (tgt := 410) hx hb dL_law_405 (by decide) (fun c_405 => ?_) (fun c_405 => ?_)
      · refine lv_goto (tgt := 1602) hx hb dL_law_410 (by decide) ?_
        refine W.widen (k := cells + 40) (n := slots + 400) (by omega) (by omega) ?_
        exact cut_1602 _ _ _ _ _ _ hRn _ _ _ (lv_sub hl [2, 3, 4, 5, 6] rfl) hw
      · exact absurd c_405 (not_not_intro (by rw [e2 c_395]; exact x_lc0 _))
  · exact absurd c_388 (not_not_intro (hr_383.trans e1))
set_option maxHeartbeats 4000000 in
set_option maxRecDepth 100000 in
theorem lc_best {p : Program} {l : Launch} {e : Env} {s : State} {m : MethodId} {below : List Frame} {meth : Method} {c : Code} {b L : Nat} {xs : Nat → Int32} {D : va_G} {cs : Nat → ClassId} {base : Nat} {ad : Nat → Nat → Nat} {nS nB nC nO : Nat} {σ : x_St} {H : Heap} {locs : List Loc} {cells slots : Nat} {ls : Array Slot} {t : Nat} {Q : State → Prop} (hl0 : l.stackTraces = false) (hx : p.tables.exec = Jvm.exec) (hb : c.code = cL_law) (hc : CallFix p m c cL_law 7 s #[Value.ref b] Tw RL) (hX_b : va_X b L xs s s.heap) (hX2_b : b < base) (hL : L ≤ 5120) (ht : 10 * t + 10 ≤ L) (hce : cells + 40 ≤ 601024) (hsl : slots + 400 ≤ 7293034) (hR : Rl σ nS nB nC nO t) (hl : lv_has ls 7 [(0, .ref b), (1, .ref (ad 6 0)), (2, .ref (ad 7 0)), (3, .ref (ad 8 0)), (4, .int (nI (10 * t)))]) (hw : x_B D cs base ad (x_n nS nB nC nO) (x_s nS nB nC nO nS nC) σ s H locs)
    (cut_1602 : ∀ (ad' : Nat → Nat → Nat) (nS nB nC nO : Nat) (σ' : x_St), Rl σ' nS nB nC nO (t + 1) → ∀ (H : Heap) (locs : List Loc) (ls : Array Slot), lv_has ls 7 [(0, .ref b), (1, .ref (ad' 6 0)), (2, .ref (ad' 7 0)), (3, .ref (ad' 8 0)), (4, .int (nI (10 * t)))] → x_B D cs base ad' (x_n nS nB nC nO) (x_s nS nB nC nO nS nC) σ' s H locs → W p l e room_1 s m #[Value.ref b] below meth c H locs (cells + 40) (slots + 400) Q (F0 m 1602 ls [])) : W p l e room_1 s m #[Value.ref b] below meth c H locs cells slots Q (F0 m 413 ls []) := by
  refine lv_aload_n hx hb dL_law_413 rfl (lv_at hl 1 rfl) ?_
  refine lv_aload_n hx hb dL_law_414 rfl (lv_at hl 0 rfl) ?_
  refine lv_iload hx hb dL_law_415 (lv_at hl 4 rfl) ?_
  refine lv_iconst (v := 1) hx hb dL_law_417 (by decide) ?_
  refine lv_iadd hx hb dL_law_418 ?_
  refine xs_ld (j := 10 * t + 1) hc hw hX_b hX2_b (nI_add (10 * t) 1) (by omega) (by omega) dL_law_419 ?_
  refine lv_aload_n hx hb dL_law_420 rfl (lv_at hl 0 rfl) ?_
  refine lv_iload hx hb dL_law_421 (lv_at hl 4 rfl) ?_
  refine lv_iconst (v := 2) hx hb dL_law_423 (by decide) ?_
  refine lv_iadd hx hb dL_law_424 ?_
  refine xs_ld (j := 10 * t + 2) hc hw hX_b hX2_b (nI_add (10 * t) 2) (by omega) (by omega) dL_law_425 ?_
  refine lv_aload_n hx hb dL_law_426 rfl (lv_at hl 3 rfl) ?_
  refine xc_Wi hc hw (c_L_best hl0 (xs (10 * t + 1)) (xs (10 * t + 2)) hR.K.S hR.K.S0 hR.sk hR.S.wk) mw_341 mw_339 mw_0 mw_340 xd_L_best ⟨by decide, by decide⟩ (rfl) hl.1 (Nat.le_of_ble_eq_true rfl) dL_law_427 ⟨by show _ ≤ 601024; omega, by show _ ≤ 7293034; omega⟩ (fun r_427 σ_427 H locs hq hw => ?_)
  have hq_427 := hq
  obtain ⟨hkp, hst⟩ := sp_best hR hq_427
  have hRm := hR.rm.mv hkp
  refine lv_istore (lv' := [(5, .int r_427), (0, .ref b), (1, .ref (ad 6 0)), (2, .ref (ad 7 0)), (3, .ref (ad 8 0)), (4, .int (nI (10 * t)))]) hx hb dL_law_430 hl (by decide) rfl (fun ls hl => ?_)
  refine lv_aload_n hx hb dL_law_432 rfl (lv_at hl 3 rfl) ?_
  refine lv_aload_n hx hb dL_law_433 rfl (lv_at hl 1 rfl) ?_
  refine lv_iload hx hb dL_law_434 (lv_at hl 5 rfl) ?_
  refine lv_iconst (v := 1) hx hb dL_law_436 (by decide) ?_
  refine lv_iadd hx hb dL_law_437 ?_
  refine xs_ld (j := 10 * t + 1) hc hw hX_b hX2_b (nI_add (10 * t) 1) (by omega) (by omega) dL_law_438 ?_
  refine lv_aload_n hx hb dL_law_439 rfl (lv_at hl 1 rfl) ?_
  refine lv_iload hx hb dL_law_440 (lv_at hl 5 rfl) ?_
  refine lv_iconst (v := 2) hx hb dL_law_442 (by decide) ?_
  refine lv_iadd hx hb dL_law_443 ?_
  refine xs_ld (j := 10 * t + 2) hc hw hX_b hX2_b (nI_add (10 * t) 2) (by omega) (by omega) dL_law_444 ?_
  refine xc_Vi hc hw 7 0 (c_X7_best (xs (10 * t + 1)) (xs (10 * t + 2)) nS hRm.S hR.K.S0 hRm.ok Nat.zero_lt_one x_hm) rfl rfl (Nat.zero_lt_one) mw_842 mw_839 mw_4 mw_840 mw_841 xd_X7_best ⟨by decide, by decide⟩ (rfl) hl.1 (Nat.le_of_ble_eq_true rfl) dL_law_445 ⟨by show _ ≤ 601024; omega, by show _ ≤ 7293034; omega⟩ (fun r_445 σ_445 H locs hq hw => ?_)
  have hq_445 := hq
  obtain ⟨e1, e2, hRn⟩ := hst _ _ hq_445
  refine lv_istore (lv' := [(6, .int r_445), (5, .int r_427), (0, .ref b), (1, .ref (ad 6 0)), (2, .ref (ad 7 0)), (3, .ref (ad 8 0)), (4, .int (nI (10 * t)))]) hx hb dL_law_448 hl (by decide) rfl (fun ls hl => ?_)
  refine lv_aload_n hx hb dL_law_450 rfl (lv_at hl 4 rfl) ?_
  refine xc_Vi hc hw 7 0 (c_X7_thrown Nat.zero_lt_one x_hm) rfl rfl (Nat.zero_lt_one) mw_818 mw_815 mw_4 mw_816 mw_817 xd_X7_thrown ⟨by decide, by decide⟩ (rfl) hl.1 (Nat.le_of_ble_eq_true rfl) dL_law_451 ⟨by show _ ≤ 601024; omega, by show _ ≤ 7293034; omega⟩ (fun r_451 σ_451 H locs hq hw => ?_)
  obtain ⟨hσ_451, hr_451⟩ := hq
  rw [hσ_451] at hw
  refine lv_iload hx hb dL_law_454 (lv_at hl 1 rfl) ?_
  refine lv_icmp_eq (tgt := 461) hx hb dL_law_456 (by decide) (fun c_456 => ?_) (fun c_456 => ?_)
  · refine lv_iload hx hb dL_law_461 (lv_at hl 1 rfl) ?_
    refine lv_if_ne (tgt := 478) hx hb dL_law_463 (by decide) (fun c_463 => ?_) (fun c_463 => ?_)
    · refine lv_goto (tgt := 1602) hx hb dL_law_478 (by decide) ?_
      refine W.widen (k := cells + 40) (n := slots + 400) (by omega) (by omega) ?_
      exact cut_1602 _ _ _ _ _ _ hRn _ _ _ (lv_sub hl [2, 3, 4, 5, 6] rfl) hw
    · refine lv_aload_n hx hb dL_law_466 rfl (lv_at hl 5 rfl) ?_
      refine lv_iconst (v := 0) hx hb dL_law_467 (by decide) ?_
      refine xl_ld (j := 0) hc hw (Nat.zero_lt_one) rfl (by decide) dL_law_468 ?_
      refine lv_iload hx hb dL_law_469 (lv_at hl 0 rfl) ?_
      refine lv_i2l hx hb dL_law_471 rfl ?_
      refine W.lcmp hx hb dL_law_472 ?_
      refine lv_if_eq (tgt := 478) hx hb dL_law_473 (by decide) (fun c_473 => ?_) (fun c_473 => ?_)
      · refine lv_goto (tgt := 1602) hx hb dL_law_478 (by decide) ?_
        refine W.widen (k := cells + 40) (n := slots + 400) (by omega) (by omega) ?_
        exact cut_1602 _ _ _ _ _ _ hRn _ _ _ (lv_sub hl [2, 3, 4, 5, 6] rfl) hw
      · exact absurd c_473 (not_not_intro (by rw [e2 c_463]; exact x_lc0 _))
  · exact absurd c_456 (not_not_intro (hr_451.trans e1))
set_option maxHeartbeats 4000000 in
set_option maxRecDepth 100000 in
theorem lc_bestAt {p : Program} {l : Launch} {e : Env} {s : State} {m : MethodId} {below : List Frame} {meth : Method} {c : Code} {b L : Nat} {xs : Nat → Int32} {D : va_G} {cs : Nat → ClassId} {base : Nat} {ad : Nat → Nat → Nat} {nS nB nC nO : Nat} {σ : x_St} {H : Heap} {locs : List Loc} {cells slots : Nat} {ls : Array Slot} {t : Nat} {Q : State → Prop} (hl0 : l.stackTraces = false) (hx : p.tables.exec = Jvm.exec) (hb : c.code = cL_law) (hc : CallFix p m c cL_law 7 s #[Value.ref b] Tw RL) (hX_b : va_X b L xs s s.heap) (hX2_b : b < base) (hL : L ≤ 5120) (ht : 10 * t + 10 ≤ L) (hce : cells + 40 ≤ 601024) (hsl : slots + 400 ≤ 7293034) (hR : Rl σ nS nB nC nO t) (hl : lv_has ls 7 [(0, .ref b), (1, .ref (ad 6 0)), (2, .ref (ad 7 0)), (3, .ref (ad 8 0)), (4, .int (nI (10 * t)))]) (hw : x_B D cs base ad (x_n nS nB nC nO) (x_s nS nB nC nO nS nC) σ s H locs)
    (cut_1602 : ∀ (ad' : Nat → Nat → Nat) (nS nB nC nO : Nat) (σ' : x_St), Rl σ' nS nB nC nO (t + 1) → ∀ (H : Heap) (locs : List Loc) (ls : Array Slot), lv_has ls 7 [(0, .ref b), (1, .ref (ad' 6 0)), (2, .ref (ad' 7 0)), (3, .ref (ad' 8 0)), (4, .int (nI (10 * t)))] → x_B D cs base ad' (x_n nS nB nC nO) (x_s nS nB nC nO nS nC) σ' s H locs → W p l e room_1 s m #[Value.ref b] below meth c H locs (cells + 40) (slots + 400) Q (F0 m 1602 ls [])) : W p l e room_1 s m #[Value.ref b] below meth c H locs cells slots Q (F0 m 481 ls []) := by
  refine lv_aload_n hx hb dL_law_481 rfl (lv_at hl 1 rfl) ?_
  refine lv_aload_n hx hb dL_law_482 rfl (lv_at hl 0 rfl) ?_
  refine lv_iload hx hb dL_law_483 (lv_at hl 4 rfl) ?_
  refine lv_iconst (v := 1) hx hb dL_law_485 (by decide) ?_
  refine lv_iadd hx hb dL_law_486 ?_
  refine xs_ld (j := 10 * t + 1) hc hw hX_b hX2_b (nI_add (10 * t) 1) (by omega) (by omega) dL_law_487 ?_
  refine lv_aload_n hx hb dL_law_488 rfl (lv_at hl 0 rfl) ?_
  refine lv_iload hx hb dL_law_489 (lv_at hl 4 rfl) ?_
  refine lv_iconst (v := 2) hx hb dL_law_491 (by decide) ?_
  refine lv_iadd hx hb dL_law_492 ?_
  refine xs_ld (j := 10 * t + 2) hc hw hX_b hX2_b (nI_add (10 * t) 2) (by omega) (by omega) dL_law_493 ?_
  refine lv_aload_n hx hb dL_law_494 rfl (lv_at hl 3 rfl) ?_
  refine xc_Wi hc hw (c_L_bestAt hl0 (xs (10 * t + 1)) (xs (10 * t + 2)) hR.K.S hR.K.S0 hR.sk hR.S.wk) mw_401 mw_399 mw_0 mw_400 xd_L_bestAt ⟨by decide, by decide⟩ (rfl) hl.1 (Nat.le_of_ble_eq_true rfl) dL_law_495 ⟨by show _ ≤ 601024; omega, by show _ ≤ 7293034; omega⟩ (fun r_495 σ_495 H locs hq hw => ?_)
  have hq_495 := hq
  obtain ⟨hkp, hst⟩ := sp_bestAt hR hq_495
  have hRm := hR.rm.mv hkp
  refine lv_istore (lv' := [(5, .int r_495), (0, .ref b), (1, .ref (ad 6 0)), (2, .ref (ad 7 0)), (3, .ref (ad 8 0)), (4, .int (nI (10 * t)))]) hx hb dL_law_498 hl (by decide) rfl (fun ls hl => ?_)
  refine lv_aload_n hx hb dL_law_500 rfl (lv_at hl 3 rfl) ?_
  refine lv_aload_n hx hb dL_law_501 rfl (lv_at hl 1 rfl) ?_
  refine lv_iload hx hb dL_law_502 (lv_at hl 5 rfl) ?_
  refine lv_iconst (v := 1) hx hb dL_law_504 (by decide) ?_
  refine lv_iadd hx hb dL_law_505 ?_
  refine xs_ld (j := 10 * t + 1) hc hw hX_b hX2_b (nI_add (10 * t) 1) (by omega) (by omega) dL_law_506 ?_
  refine lv_aload_n hx hb dL_law_507 rfl (lv_at hl 1 rfl) ?_
  refine lv_iload hx hb dL_law_508 (lv_at hl 5 rfl) ?_
  refine lv_iconst (v := 2) hx hb dL_law_510 (by decide) ?_
  refine lv_iadd hx hb dL_law_511 ?_
  refine xs_ld (j := 10 * t + 2) hc hw hX_b hX2_b (nI_add (10 * t) 2) (by omega) (by omega) dL_law_512 ?_
  refine xc_Vi hc hw 7 0 (c_X7_bestAt (xs (10 * t + 1)) (xs (10 * t + 2)) nS hRm.S hR.K.S0 hRm.ok Nat.zero_lt_one x_hm) rfl rfl (Nat.zero_lt_one) mw_863 mw_860 mw_4 mw_861 mw_862 xd_X7_bestAt ⟨by decide, by decide⟩ (rfl) hl.1 (Nat.le_of_ble_eq_true rfl) dL_law_513 ⟨by show _ ≤ 601024; omega, by show _ ≤ 7293034; omega⟩ (fun r_513 σ_513 H locs hq hw => ?_)
  have hq_513 := hq
  obtain ⟨e1, e2, hRn⟩ := hst _ _ hq_513
  refine lv_istore (lv' := [(6, .int r_513), (5, .int r_495), (0, .ref b), (1, .ref (ad 6 0)), (2, .ref (ad 7 0)), (3, .ref (ad 8 0)), (4, .int (nI (10 * t)))]) hx hb dL_law_516 hl (by decide) rfl (fun ls hl => ?_)
  refine lv_aload_n hx hb dL_law_518 rfl (lv_at hl 4 rfl) ?_
  refine xc_Vi hc hw 7 0 (c_X7_thrown Nat.zero_lt_one x_hm) rfl rfl (Nat.zero_lt_one) mw_818 mw_815 mw_4 mw_816 mw_817 xd_X7_thrown ⟨by decide, by decide⟩ (rfl) hl.1 (Nat.le_of_ble_eq_true rfl) dL_law_519 ⟨by show _ ≤ 601024; omega, by show _ ≤ 7293034; omega⟩ (fun r_519 σ_519 H locs hq hw => ?_)
  obtain ⟨hσ_519, hr_519⟩ := hq
  rw [hσ_519] at hw
  refine lv_iload hx hb dL_law_522 (lv_at hl 1 rfl) ?_
  refine lv_icmp_eq (tgt := 529) hx hb dL_law_524 (by decide) (fun c_524 => ?_) (fun c_524 => ?_)
  · refine lv_iload hx hb dL_law_529 (lv_at hl 1 rfl) ?_
    refine lv_if_ne (tgt := 546) hx hb dL_law_531 (by decide) (fun c_531 => ?_) (fun c_531 => ?_)
    · refine lv_goto (tgt := 1602) hx hb dL_law_546 (by decide) ?_
      refine W.widen (k := cells + 40) (n := slots + 400) (by omega) (by omega) ?_
      exact cut_1602 _ _ _ _ _ _ hRn _ _ _ (lv_sub hl [2, 3, 4, 5, 6] rfl) hw
    · refine lv_aload_n hx hb dL_law_534 rfl (lv_at hl 5 rfl) ?_
      refine lv_iconst (v := 0) hx hb dL_law_535 (by decide) ?_
      refine xl_ld (j := 0) hc hw (Nat.zero_lt_one) rfl (by decide) dL_law_536 ?_
      refine lv_iload hx hb dL_law_537 (lv_at hl 0 rfl) ?_
      refine lv_i2l hx hb dL_law_539 rfl ?_
      refine W.lcmp hx hb dL_law_540 ?_
      refine lv_if_eq (tgt := 546) hx hb dL_law_541 (by decide) (fun c_541 => ?_) (fun c_541 => ?_)
      · refine lv_goto (tgt := 1602) hx hb dL_law_546 (by decide) ?_
        refine W.widen (k := cells + 40) (n := slots + 400) (by omega) (by omega) ?_
        exact cut_1602 _ _ _ _ _ _ hRn _ _ _ (lv_sub hl [2, 3, 4, 5, 6] rfl) hw
      · exact absurd c_541 (not_not_intro (by rw [e2 c_531]; exact x_lc0 _))
  · exact absurd c_524 (not_not_intro (hr_519.trans e1))
set_option maxHeartbeats 4000000 in
set_option maxRecDepth 100000 in
theorem lc_cut {p : Program} {l : Launch} {e : Env} {s : State} {m : MethodId} {below : List Frame} {meth : Method} {c : Code} {b L : Nat} {xs : Nat → Int32} {D : va_G} {cs : Nat → ClassId} {base : Nat} {ad : Nat → Nat → Nat} {nS nB nC nO : Nat} {σ : x_St} {H : Heap} {locs : List Loc} {cells slots : Nat} {ls : Array Slot} {t : Nat} {Q : State → Prop} (hl0 : l.stackTraces = false) (hx : p.tables.exec = Jvm.exec) (hb : c.code = cL_law) (hc : CallFix p m c cL_law 7 s #[Value.ref b] Tw RL) (hX_b : va_X b L xs s s.heap) (hX2_b : b < base) (hL : L ≤ 5120) (ht : 10 * t + 10 ≤ L) (hce : cells + 40 ≤ 601024) (hsl : slots + 400 ≤ 7293034) (hR : Rl σ nS nB nC nO t) (hl : lv_has ls 7 [(0, .ref b), (1, .ref (ad 6 0)), (2, .ref (ad 7 0)), (3, .ref (ad 8 0)), (4, .int (nI (10 * t)))]) (hw : x_B D cs base ad (x_n nS nB nC nO) (x_s nS nB nC nO nS nC) σ s H locs)
    (cut_1602 : ∀ (ad' : Nat → Nat → Nat) (nS nB nC nO : Nat) (σ' : x_St), Rl σ' nS nB nC nO (t + 1) → ∀ (H : Heap) (locs : List Loc) (ls : Array Slot), lv_has ls 7 [(0, .ref b), (1, .ref (ad' 6 0)), (2, .ref (ad' 7 0)), (3, .ref (ad' 8 0)), (4, .int (nI (10 * t)))] → x_B D cs base ad' (x_n nS nB nC nO) (x_s nS nB nC nO nS nC) σ' s H locs → W p l e room_1 s m #[Value.ref b] below meth c H locs (cells + 40) (slots + 400) Q (F0 m 1602 ls [])) : W p l e room_1 s m #[Value.ref b] below meth c H locs cells slots Q (F0 m 549 ls []) := by
  refine lv_aload_n hx hb dL_law_549 rfl (lv_at hl 1 rfl) ?_
  refine lv_aload_n hx hb dL_law_550 rfl (lv_at hl 0 rfl) ?_
  refine lv_iload hx hb dL_law_551 (lv_at hl 4 rfl) ?_
  refine lv_iconst (v := 1) hx hb dL_law_553 (by decide) ?_
  refine lv_iadd hx hb dL_law_554 ?_
  refine xs_ld (j := 10 * t + 1) hc hw hX_b hX2_b (nI_add (10 * t) 1) (by omega) (by omega) dL_law_555 ?_
  refine lv_aload_n hx hb dL_law_556 rfl (lv_at hl 3 rfl) ?_
  refine xc_Wi hc hw (c_L_cut hl0 (xs (10 * t + 1)) hR.K.S hR.K.S0 hR.K.B hR.K.B0 hR.sk hR.S.wk) mw_409 mw_407 mw_0 mw_408 xd_L_cut ⟨by decide, by decide⟩ (rfl) hl.1 (Nat.le_of_ble_eq_true rfl) dL_law_557 ⟨by show _ ≤ 601024; omega, by show _ ≤ 7293034; omega⟩ (fun r_557 σ_557 H locs hq hw => ?_)
  obtain ⟨ad_557, m_557, σ_557⟩ := σ_557
  have hq_557 := hq
  have hag_557 : ∀ a b, b < (x_n nS nB nC nO) a → ad_557 a b = ad a b := (sp_cut hR hq).1
  replace hw : x_B D cs base ad_557 (x_n nS m_557 nC nO) (x_s nS m_557 nC nO nS nC) σ_557 s H locs := hw
  have hl : lv_has ls 7 [(0, .ref b), (1, .ref (ad_557 6 0)), (2, .ref (ad_557 7 0)), (3, .ref (ad_557 8 0)), (4, .int (nI (10 * t)))] := by rw [hag_557 6 0 (Nat.zero_lt_one), hag_557 7 0 (Nat.zero_lt_one), hag_557 8 0 (Nat.zero_lt_one)]; exact hl
  obtain ⟨_, hkp, hst⟩ := sp_cut hR hq_557
  have hRm := hR.rm.mv hkp
  refine lv_istore (lv' := [(5, .int r_557), (0, .ref b), (1, .ref (ad_557 6 0)), (2, .ref (ad_557 7 0)), (3, .ref (ad_557 8 0)), (4, .int (nI (10 * t)))]) hx hb dL_law_560 hl (by decide) rfl (fun ls hl => ?_)
  refine lv_aload_n hx hb dL_law_562 rfl (lv_at hl 3 rfl) ?_
  refine lv_aload_n hx hb dL_law_563 rfl (lv_at hl 1 rfl) ?_
  refine lv_iload hx hb dL_law_564 (lv_at hl 5 rfl) ?_
  refine lv_iconst (v := 1) hx hb dL_law_566 (by decide) ?_
  refine lv_iadd hx hb dL_law_567 ?_
  refine xs_ld (j := 10 * t + 1) hc hw hX_b hX2_b (nI_add (10 * t) 1) (by omega) (by omega) dL_law_568 ?_
  refine xc_Vi hc hw 7 0 (c_X7_cut (xs (10 * t + 1)) nS hRm.S hR.K.S0 nB hRm.B hR.K.B0 hRm.ok Nat.zero_lt_one x_hm) rfl rfl (Nat.zero_lt_one) mw_867 mw_864 mw_4 mw_865 mw_866 xd_X7_cut ⟨by decide, by decide⟩ (rfl) hl.1 (Nat.le_of_ble_eq_true rfl) dL_law_569 ⟨by show _ ≤ 601024; omega, by show _ ≤ 7293034; omega⟩ (fun r_569 σ_569 H locs hq hw => ?_)
  have hq_569 := hq
  obtain ⟨e1, e2, hRn⟩ := hst _ _ hq_569
  refine lv_istore (lv' := [(6, .int r_569), (5, .int r_557), (0, .ref b), (1, .ref (ad_557 6 0)), (2, .ref (ad_557 7 0)), (3, .ref (ad_557 8 0)), (4, .int (nI (10 * t)))]) hx hb dL_law_572 hl (by decide) rfl (fun ls hl => ?_)
  refine lv_aload_n hx hb dL_law_574 rfl (lv_at hl 4 rfl) ?_
  refine xc_Vi hc hw 7 0 (c_X7_thrown Nat.zero_lt_one x_hm) rfl rfl (Nat.zero_lt_one) mw_818 mw_815 mw_4 mw_816 mw_817 xd_X7_thrown ⟨by decide, by decide⟩ (rfl) hl.1 (Nat.le_of_ble_eq_true rfl) dL_law_575 ⟨by show _ ≤ 601024; omega, by show _ ≤ 7293034; omega⟩ (fun r_575 σ_575 H locs hq hw => ?_)
  obtain ⟨hσ_575, hr_575⟩ := hq
  rw [hσ_575] at hw
  refine lv_iload hx hb dL_law_578 (lv_at hl 1 rfl) ?_
  refine lv_icmp_eq (tgt := 585) hx hb dL_law_580 (by decide) (fun c_580 => ?_) (fun c_580 => ?_)
  · refine lv_iload hx hb dL_law_585 (lv_at hl 1 rfl) ?_
    refine lv_if_ne (tgt := 602) hx hb dL_law_587 (by decide) (fun c_587 => ?_) (fun c_587 => ?_)
    · refine lv_goto (tgt := 1602) hx hb dL_law_602 (by decide) ?_
      refine W.widen (k := cells + 40) (n := slots + 400) (by omega) (by omega) ?_
      exact cut_1602 _ _ _ _ _ _ hRn _ _ _ (lv_sub hl [2, 3, 4, 5, 6] rfl) hw
    · refine lv_aload_n hx hb dL_law_590 rfl (lv_at hl 5 rfl) ?_
      refine lv_iconst (v := 0) hx hb dL_law_591 (by decide) ?_
      refine xl_ld (j := 0) hc hw (Nat.zero_lt_one) rfl (by decide) dL_law_592 ?_
      refine lv_iload hx hb dL_law_593 (lv_at hl 0 rfl) ?_
      refine lv_i2l hx hb dL_law_595 rfl ?_
      refine W.lcmp hx hb dL_law_596 ?_
      refine lv_if_eq (tgt := 602) hx hb dL_law_597 (by decide) (fun c_597 => ?_) (fun c_597 => ?_)
      · refine lv_goto (tgt := 1602) hx hb dL_law_602 (by decide) ?_
        refine W.widen (k := cells + 40) (n := slots + 400) (by omega) (by omega) ?_
        exact cut_1602 _ _ _ _ _ _ hRn _ _ _ (lv_sub hl [2, 3, 4, 5, 6] rfl) hw
      · exact absurd c_597 (not_not_intro (by rw [e2 c_587]; exact x_lc0 _))
  · exact absurd c_580 (not_not_intro (hr_575.trans e1))
set_option maxHeartbeats 4000000 in
set_option maxRecDepth 100000 in
theorem lc_button {p : Program} {l : Launch} {e : Env} {s : State} {m : MethodId} {below : List Frame} {meth : Method} {c : Code} {b L : Nat} {xs : Nat → Int32} {D : va_G} {cs : Nat → ClassId} {base : Nat} {ad : Nat → Nat → Nat} {nS nB nC nO : Nat} {σ : x_St} {H : Heap} {locs : List Loc} {cells slots : Nat} {ls : Array Slot} {t : Nat} {Q : State → Prop} (hl0 : l.stackTraces = false) (hx : p.tables.exec = Jvm.exec) (hb : c.code = cL_law) (hc : CallFix p m c cL_law 7 s #[Value.ref b] Tw RL) (hX_b : va_X b L xs s s.heap) (hX2_b : b < base) (hL : L ≤ 5120) (ht : 10 * t + 10 ≤ L) (hce : cells + 40 ≤ 601024) (hsl : slots + 400 ≤ 7293034) (hR : Rl σ nS nB nC nO t) (hl : lv_has ls 7 [(0, .ref b), (1, .ref (ad 6 0)), (2, .ref (ad 7 0)), (3, .ref (ad 8 0)), (4, .int (nI (10 * t)))]) (hw : x_B D cs base ad (x_n nS nB nC nO) (x_s nS nB nC nO nS nC) σ s H locs)
    (cut_1602 : ∀ (ad' : Nat → Nat → Nat) (nS nB nC nO : Nat) (σ' : x_St), Rl σ' nS nB nC nO (t + 1) → ∀ (H : Heap) (locs : List Loc) (ls : Array Slot), lv_has ls 7 [(0, .ref b), (1, .ref (ad' 6 0)), (2, .ref (ad' 7 0)), (3, .ref (ad' 8 0)), (4, .int (nI (10 * t)))] → x_B D cs base ad' (x_n nS nB nC nO) (x_s nS nB nC nO nS nC) σ' s H locs → W p l e room_1 s m #[Value.ref b] below meth c H locs (cells + 40) (slots + 400) Q (F0 m 1602 ls [])) : W p l e room_1 s m #[Value.ref b] below meth c H locs cells slots Q (F0 m 605 ls []) := by
  refine lv_aload_n hx hb dL_law_605 rfl (lv_at hl 1 rfl) ?_
  refine lv_aload_n hx hb dL_law_606 rfl (lv_at hl 0 rfl) ?_
  refine lv_iload hx hb dL_law_607 (lv_at hl 4 rfl) ?_
  refine lv_iconst (v := 1) hx hb dL_law_609 (by decide) ?_
  refine lv_iadd hx hb dL_law_610 ?_
  refine xs_ld (j := 10 * t + 1) hc hw hX_b hX2_b (nI_add (10 * t) 1) (by omega) (by omega) dL_law_611 ?_
  refine lv_aload_n hx hb dL_law_612 rfl (lv_at hl 0 rfl) ?_
  refine lv_iload hx hb dL_law_613 (lv_at hl 4 rfl) ?_
  refine lv_iconst (v := 2) hx hb dL_law_615 (by decide) ?_
  refine lv_iadd hx hb dL_law_616 ?_
  refine xs_ld (j := 10 * t + 2) hc hw hX_b hX2_b (nI_add (10 * t) 2) (by omega) (by omega) dL_law_617 ?_
  refine lv_aload_n hx hb dL_law_618 rfl (lv_at hl 3 rfl) ?_
  refine xc_Wi hc hw (c_L_button hl0 (xs (10 * t + 1)) (xs (10 * t + 2)) hR.K.B hR.K.B0) mw_462 mw_460 mw_0 mw_461 xd_L_button ⟨by decide, by decide⟩ (rfl) hl.1 (Nat.le_of_ble_eq_true rfl) dL_law_619 ⟨by show _ ≤ 601024; omega, by show _ ≤ 7293034; omega⟩ (fun r_619 σ_619 H locs hq hw => ?_)
  have hq_619 := hq
  obtain ⟨hkp, hst⟩ := sp_button hR hq_619
  have hRm := hR.rm.mv hkp
  refine lv_istore (lv' := [(5, .int r_619), (0, .ref b), (1, .ref (ad 6 0)), (2, .ref (ad 7 0)), (3, .ref (ad 8 0)), (4, .int (nI (10 * t)))]) hx hb dL_law_622 hl (by decide) rfl (fun ls hl => ?_)
  refine lv_aload_n hx hb dL_law_624 rfl (lv_at hl 3 rfl) ?_
  refine lv_aload_n hx hb dL_law_625 rfl (lv_at hl 1 rfl) ?_
  refine lv_iload hx hb dL_law_626 (lv_at hl 5 rfl) ?_
  refine lv_iconst (v := 1) hx hb dL_law_628 (by decide) ?_
  refine lv_iadd hx hb dL_law_629 ?_
  refine xs_ld (j := 10 * t + 1) hc hw hX_b hX2_b (nI_add (10 * t) 1) (by omega) (by omega) dL_law_630 ?_
  refine lv_aload_n hx hb dL_law_631 rfl (lv_at hl 1 rfl) ?_
  refine lv_iload hx hb dL_law_632 (lv_at hl 5 rfl) ?_
  refine lv_iconst (v := 2) hx hb dL_law_634 (by decide) ?_
  refine lv_iadd hx hb dL_law_635 ?_
  refine xs_ld (j := 10 * t + 2) hc hw hX_b hX2_b (nI_add (10 * t) 2) (by omega) (by omega) dL_law_636 ?_
  refine xc_Vi hc hw 7 0 (c_X7_button (xs (10 * t + 1)) (xs (10 * t + 2)) nB hRm.B hR.K.B0 Nat.zero_lt_one x_hm) rfl rfl (Nat.zero_lt_one) mw_875 mw_872 mw_4 mw_873 mw_874 xd_X7_button ⟨by decide, by decide⟩ (rfl) hl.1 (Nat.le_of_ble_eq_true rfl) dL_law_637 ⟨by show _ ≤ 601024; omega, by show _ ≤ 7293034; omega⟩ (fun r_637 σ_637 H locs hq hw => ?_)
  have hq_637 := hq
  obtain ⟨e1, e2, hRn⟩ := hst _ _ hq_637
  refine lv_istore (lv' := [(6, .int r_637), (5, .int r_619), (0, .ref b), (1, .ref (ad 6 0)), (2, .ref (ad 7 0)), (3, .ref (ad 8 0)), (4, .int (nI (10 * t)))]) hx hb dL_law_640 hl (by decide) rfl (fun ls hl => ?_)
  refine lv_aload_n hx hb dL_law_642 rfl (lv_at hl 4 rfl) ?_
  refine xc_Vi hc hw 7 0 (c_X7_thrown Nat.zero_lt_one x_hm) rfl rfl (Nat.zero_lt_one) mw_818 mw_815 mw_4 mw_816 mw_817 xd_X7_thrown ⟨by decide, by decide⟩ (rfl) hl.1 (Nat.le_of_ble_eq_true rfl) dL_law_643 ⟨by show _ ≤ 601024; omega, by show _ ≤ 7293034; omega⟩ (fun r_643 σ_643 H locs hq hw => ?_)
  obtain ⟨hσ_643, hr_643⟩ := hq
  rw [hσ_643] at hw
  refine lv_iload hx hb dL_law_646 (lv_at hl 1 rfl) ?_
  refine lv_icmp_eq (tgt := 653) hx hb dL_law_648 (by decide) (fun c_648 => ?_) (fun c_648 => ?_)
  · refine lv_iload hx hb dL_law_653 (lv_at hl 1 rfl) ?_
    refine lv_if_ne (tgt := 670) hx hb dL_law_655 (by decide) (fun c_655 => ?_) (fun c_655 => ?_)
    · refine lv_goto (tgt := 1602) hx hb dL_law_670 (by decide) ?_
      refine W.widen (k := cells + 40) (n := slots + 400) (by omega) (by omega) ?_
      exact cut_1602 _ _ _ _ _ _ hRn _ _ _ (lv_sub hl [2, 3, 4, 5, 6] rfl) hw
    · refine lv_aload_n hx hb dL_law_658 rfl (lv_at hl 5 rfl) ?_
      refine lv_iconst (v := 0) hx hb dL_law_659 (by decide) ?_
      refine xl_ld (j := 0) hc hw (Nat.zero_lt_one) rfl (by decide) dL_law_660 ?_
      refine lv_iload hx hb dL_law_661 (lv_at hl 0 rfl) ?_
      refine lv_i2l hx hb dL_law_663 rfl ?_
      refine W.lcmp hx hb dL_law_664 ?_
      refine lv_if_eq (tgt := 670) hx hb dL_law_665 (by decide) (fun c_665 => ?_) (fun c_665 => ?_)
      · refine lv_goto (tgt := 1602) hx hb dL_law_670 (by decide) ?_
        refine W.widen (k := cells + 40) (n := slots + 400) (by omega) (by omega) ?_
        exact cut_1602 _ _ _ _ _ _ hRn _ _ _ (lv_sub hl [2, 3, 4, 5, 6] rfl) hw
      · exact absurd c_665 (not_not_intro (by rw [e2 c_655]; exact x_lc0 _))
  · exact absurd c_648 (not_not_intro (hr_643.trans e1))
set_option maxHeartbeats 4000000 in
set_option maxRecDepth 100000 in
theorem lc_stands {p : Program} {l : Launch} {e : Env} {s : State} {m : MethodId} {below : List Frame} {meth : Method} {c : Code} {b L : Nat} {xs : Nat → Int32} {D : va_G} {cs : Nat → ClassId} {base : Nat} {ad : Nat → Nat → Nat} {nS nB nC nO : Nat} {σ : x_St} {H : Heap} {locs : List Loc} {cells slots : Nat} {ls : Array Slot} {t : Nat} {Q : State → Prop} (hl0 : l.stackTraces = false) (hx : p.tables.exec = Jvm.exec) (hb : c.code = cL_law) (hc : CallFix p m c cL_law 7 s #[Value.ref b] Tw RL) (hX_b : va_X b L xs s s.heap) (hX2_b : b < base) (hL : L ≤ 5120) (ht : 10 * t + 10 ≤ L) (hce : cells + 40 ≤ 601024) (hsl : slots + 400 ≤ 7293034) (hR : Rl σ nS nB nC nO t) (hl : lv_has ls 7 [(0, .ref b), (1, .ref (ad 6 0)), (2, .ref (ad 7 0)), (3, .ref (ad 8 0)), (4, .int (nI (10 * t)))]) (hw : x_B D cs base ad (x_n nS nB nC nO) (x_s nS nB nC nO nS nC) σ s H locs)
    (cut_1602 : ∀ (ad' : Nat → Nat → Nat) (nS nB nC nO : Nat) (σ' : x_St), Rl σ' nS nB nC nO (t + 1) → ∀ (H : Heap) (locs : List Loc) (ls : Array Slot), lv_has ls 7 [(0, .ref b), (1, .ref (ad' 6 0)), (2, .ref (ad' 7 0)), (3, .ref (ad' 8 0)), (4, .int (nI (10 * t)))] → x_B D cs base ad' (x_n nS nB nC nO) (x_s nS nB nC nO nS nC) σ' s H locs → W p l e room_1 s m #[Value.ref b] below meth c H locs (cells + 40) (slots + 400) Q (F0 m 1602 ls [])) : W p l e room_1 s m #[Value.ref b] below meth c H locs cells slots Q (F0 m 673 ls []) := by
  refine lv_aload_n hx hb dL_law_673 rfl (lv_at hl 1 rfl) ?_
  refine lv_aload_n hx hb dL_law_674 rfl (lv_at hl 0 rfl) ?_
  refine lv_iload hx hb dL_law_675 (lv_at hl 4 rfl) ?_
  refine lv_iconst (v := 1) hx hb dL_law_677 (by decide) ?_
  refine lv_iadd hx hb dL_law_678 ?_
  refine xs_ld (j := 10 * t + 1) hc hw hX_b hX2_b (nI_add (10 * t) 1) (by omega) (by omega) dL_law_679 ?_
  refine lv_aload_n hx hb dL_law_680 rfl (lv_at hl 0 rfl) ?_
  refine lv_iload hx hb dL_law_681 (lv_at hl 4 rfl) ?_
  refine lv_iconst (v := 2) hx hb dL_law_683 (by decide) ?_
  refine lv_iadd hx hb dL_law_684 ?_
  refine xs_ld (j := 10 * t + 2) hc hw hX_b hX2_b (nI_add (10 * t) 2) (by omega) (by omega) dL_law_685 ?_
  refine lv_aload_n hx hb dL_law_686 rfl (lv_at hl 3 rfl) ?_
  refine xc_Wi hc hw (c_L_stands hl0 (xs (10 * t + 1)) (xs (10 * t + 2))) mw_475 mw_473 mw_0 mw_474 xd_L_stands ⟨by decide, by decide⟩ (rfl) hl.1 (Nat.le_of_ble_eq_true rfl) dL_law_687 ⟨by show _ ≤ 601024; omega, by show _ ≤ 7293034; omega⟩ (fun r_687 σ_687 H locs hq hw => ?_)
  have hq_687 := hq
  obtain ⟨hkp, hst⟩ := sp_stands hR hq_687
  have hRm := hR.rm.mv hkp
  refine lv_istore (lv' := [(5, .int r_687), (0, .ref b), (1, .ref (ad 6 0)), (2, .ref (ad 7 0)), (3, .ref (ad 8 0)), (4, .int (nI (10 * t)))]) hx hb dL_law_690 hl (by decide) rfl (fun ls hl => ?_)
  refine lv_aload_n hx hb dL_law_692 rfl (lv_at hl 3 rfl) ?_
  refine lv_aload_n hx hb dL_law_693 rfl (lv_at hl 1 rfl) ?_
  refine lv_iload hx hb dL_law_694 (lv_at hl 5 rfl) ?_
  refine lv_iconst (v := 1) hx hb dL_law_696 (by decide) ?_
  refine lv_iadd hx hb dL_law_697 ?_
  refine xs_ld (j := 10 * t + 1) hc hw hX_b hX2_b (nI_add (10 * t) 1) (by omega) (by omega) dL_law_698 ?_
  refine lv_aload_n hx hb dL_law_699 rfl (lv_at hl 1 rfl) ?_
  refine lv_iload hx hb dL_law_700 (lv_at hl 5 rfl) ?_
  refine lv_iconst (v := 2) hx hb dL_law_702 (by decide) ?_
  refine lv_iadd hx hb dL_law_703 ?_
  refine xs_ld (j := 10 * t + 2) hc hw hX_b hX2_b (nI_add (10 * t) 2) (by omega) (by omega) dL_law_704 ?_
  refine xc_Vi hc hw 7 0 (c_X7_stands (xs (10 * t + 1)) (xs (10 * t + 2)) Nat.zero_lt_one x_hm) rfl rfl (Nat.zero_lt_one) mw_883 mw_880 mw_4 mw_881 mw_882 xd_X7_stands ⟨by decide, by decide⟩ (rfl) hl.1 (Nat.le_of_ble_eq_true rfl) dL_law_705 ⟨by show _ ≤ 601024; omega, by show _ ≤ 7293034; omega⟩ (fun r_705 σ_705 H locs hq hw => ?_)
  have hq_705 := hq
  obtain ⟨e1, e2, hRn⟩ := hst _ _ hq_705
  refine lv_istore (lv' := [(6, .int r_705), (5, .int r_687), (0, .ref b), (1, .ref (ad 6 0)), (2, .ref (ad 7 0)), (3, .ref (ad 8 0)), (4, .int (nI (10 * t)))]) hx hb dL_law_708 hl (by decide) rfl (fun ls hl => ?_)
  refine lv_aload_n hx hb dL_law_710 rfl (lv_at hl 4 rfl) ?_
  refine xc_Vi hc hw 7 0 (c_X7_thrown Nat.zero_lt_one x_hm) rfl rfl (Nat.zero_lt_one) mw_818 mw_815 mw_4 mw_816 mw_817 xd_X7_thrown ⟨by decide, by decide⟩ (rfl) hl.1 (Nat.le_of_ble_eq_true rfl) dL_law_711 ⟨by show _ ≤ 601024; omega, by show _ ≤ 7293034; omega⟩ (fun r_711 σ_711 H locs hq hw => ?_)
  obtain ⟨hσ_711, hr_711⟩ := hq
  rw [hσ_711] at hw
  refine lv_iload hx hb dL_law_714 (lv_at hl 1 rfl) ?_
  refine lv_icmp_eq (tgt := 721) hx hb dL_law_716 (by decide) (fun c_716 => ?_) (fun c_716 => ?_)
  · refine lv_iload hx hb dL_law_721 (lv_at hl 1 rfl) ?_
    refine lv_if_ne (tgt := 738) hx hb dL_law_723 (by decide) (fun c_723 => ?_) (fun c_723 => ?_)
    · refine lv_goto (tgt := 1602) hx hb dL_law_738 (by decide) ?_
      refine W.widen (k := cells + 40) (n := slots + 400) (by omega) (by omega) ?_
      exact cut_1602 _ _ _ _ _ _ hRn _ _ _ (lv_sub hl [2, 3, 4, 5, 6] rfl) hw
    · refine lv_aload_n hx hb dL_law_726 rfl (lv_at hl 5 rfl) ?_
      refine lv_iconst (v := 0) hx hb dL_law_727 (by decide) ?_
      refine xl_ld (j := 0) hc hw (Nat.zero_lt_one) rfl (by decide) dL_law_728 ?_
      refine lv_iload hx hb dL_law_729 (lv_at hl 0 rfl) ?_
      refine lv_i2l hx hb dL_law_731 rfl ?_
      refine W.lcmp hx hb dL_law_732 ?_
      refine lv_if_eq (tgt := 738) hx hb dL_law_733 (by decide) (fun c_733 => ?_) (fun c_733 => ?_)
      · refine lv_goto (tgt := 1602) hx hb dL_law_738 (by decide) ?_
        refine W.widen (k := cells + 40) (n := slots + 400) (by omega) (by omega) ?_
        exact cut_1602 _ _ _ _ _ _ hRn _ _ _ (lv_sub hl [2, 3, 4, 5, 6] rfl) hw
      · exact absurd c_733 (not_not_intro (by rw [e2 c_723]; exact x_lc0 _))
  · exact absurd c_716 (not_not_intro (hr_711.trans e1))
set_option maxHeartbeats 4000000 in
set_option maxRecDepth 100000 in
theorem lc_work {p : Program} {l : Launch} {e : Env} {s : State} {m : MethodId} {below : List Frame} {meth : Method} {c : Code} {b L : Nat} {xs : Nat → Int32} {D : va_G} {cs : Nat → ClassId} {base : Nat} {ad : Nat → Nat → Nat} {nS nB nC nO : Nat} {σ : x_St} {H : Heap} {locs : List Loc} {cells slots : Nat} {ls : Array Slot} {t : Nat} {Q : State → Prop} (hl0 : l.stackTraces = false) (hx : p.tables.exec = Jvm.exec) (hb : c.code = cL_law) (hc : CallFix p m c cL_law 7 s #[Value.ref b] Tw RL) (hX_b : va_X b L xs s s.heap) (hX2_b : b < base) (hL : L ≤ 5120) (ht : 10 * t + 10 ≤ L) (hce : cells + 40 ≤ 601024) (hsl : slots + 400 ≤ 7293034) (hR : Rl σ nS nB nC nO t) (hl : lv_has ls 7 [(0, .ref b), (1, .ref (ad 6 0)), (2, .ref (ad 7 0)), (3, .ref (ad 8 0)), (4, .int (nI (10 * t)))]) (hw : x_B D cs base ad (x_n nS nB nC nO) (x_s nS nB nC nO nS nC) σ s H locs)
    (cut_1602 : ∀ (ad' : Nat → Nat → Nat) (nS nB nC nO : Nat) (σ' : x_St), Rl σ' nS nB nC nO (t + 1) → ∀ (H : Heap) (locs : List Loc) (ls : Array Slot), lv_has ls 7 [(0, .ref b), (1, .ref (ad' 6 0)), (2, .ref (ad' 7 0)), (3, .ref (ad' 8 0)), (4, .int (nI (10 * t)))] → x_B D cs base ad' (x_n nS nB nC nO) (x_s nS nB nC nO nS nC) σ' s H locs → W p l e room_1 s m #[Value.ref b] below meth c H locs (cells + 40) (slots + 400) Q (F0 m 1602 ls [])) : W p l e room_1 s m #[Value.ref b] below meth c H locs cells slots Q (F0 m 741 ls []) := by
  refine lv_aload_n hx hb dL_law_741 rfl (lv_at hl 1 rfl) ?_
  refine lv_aload_n hx hb dL_law_742 rfl (lv_at hl 0 rfl) ?_
  refine lv_iload hx hb dL_law_743 (lv_at hl 4 rfl) ?_
  refine lv_iconst (v := 1) hx hb dL_law_745 (by decide) ?_
  refine lv_iadd hx hb dL_law_746 ?_
  refine xs_ld (j := 10 * t + 1) hc hw hX_b hX2_b (nI_add (10 * t) 1) (by omega) (by omega) dL_law_747 ?_
  refine lv_aload_n hx hb dL_law_748 rfl (lv_at hl 0 rfl) ?_
  refine lv_iload hx hb dL_law_749 (lv_at hl 4 rfl) ?_
  refine lv_iconst (v := 2) hx hb dL_law_751 (by decide) ?_
  refine lv_iadd hx hb dL_law_752 ?_
  refine xs_ld (j := 10 * t + 2) hc hw hX_b hX2_b (nI_add (10 * t) 2) (by omega) (by omega) dL_law_753 ?_
  refine lv_aload_n hx hb dL_law_754 rfl (lv_at hl 0 rfl) ?_
  refine lv_iload hx hb dL_law_755 (lv_at hl 4 rfl) ?_
  refine lv_iconst (v := 3) hx hb dL_law_757 (by decide) ?_
  refine lv_iadd hx hb dL_law_758 ?_
  refine xs_ld (j := 10 * t + 3) hc hw hX_b hX2_b (nI_add (10 * t) 3) (by omega) (by omega) dL_law_759 ?_
  refine lv_aload_n hx hb dL_law_760 rfl (lv_at hl 3 rfl) ?_
  refine xc_Wi hc hw (c_L_work hl0 (xs (10 * t + 1)) (xs (10 * t + 2)) (xs (10 * t + 3)) hR.K.B hR.K.B0) mw_488 mw_486 mw_0 mw_487 xd_L_work ⟨by decide, by decide⟩ (rfl) hl.1 (Nat.le_of_ble_eq_true rfl) dL_law_761 ⟨by show _ ≤ 601024; omega, by show _ ≤ 7293034; omega⟩ (fun r_761 σ_761 H locs hq hw => ?_)
  have hq_761 := hq
  obtain ⟨hkp, hst⟩ := sp_work hR hq_761
  have hRm := hR.rm.mv hkp
  refine lv_istore (lv' := [(5, .int r_761), (0, .ref b), (1, .ref (ad 6 0)), (2, .ref (ad 7 0)), (3, .ref (ad 8 0)), (4, .int (nI (10 * t)))]) hx hb dL_law_764 hl (by decide) rfl (fun ls hl => ?_)
  refine lv_aload_n hx hb dL_law_766 rfl (lv_at hl 3 rfl) ?_
  refine lv_aload_n hx hb dL_law_767 rfl (lv_at hl 1 rfl) ?_
  refine lv_iload hx hb dL_law_768 (lv_at hl 5 rfl) ?_
  refine lv_iconst (v := 1) hx hb dL_law_770 (by decide) ?_
  refine lv_iadd hx hb dL_law_771 ?_
  refine xs_ld (j := 10 * t + 1) hc hw hX_b hX2_b (nI_add (10 * t) 1) (by omega) (by omega) dL_law_772 ?_
  refine lv_aload_n hx hb dL_law_773 rfl (lv_at hl 1 rfl) ?_
  refine lv_iload hx hb dL_law_774 (lv_at hl 5 rfl) ?_
  refine lv_iconst (v := 2) hx hb dL_law_776 (by decide) ?_
  refine lv_iadd hx hb dL_law_777 ?_
  refine xs_ld (j := 10 * t + 2) hc hw hX_b hX2_b (nI_add (10 * t) 2) (by omega) (by omega) dL_law_778 ?_
  refine lv_aload_n hx hb dL_law_779 rfl (lv_at hl 1 rfl) ?_
  refine lv_iload hx hb dL_law_780 (lv_at hl 5 rfl) ?_
  refine lv_iconst (v := 3) hx hb dL_law_782 (by decide) ?_
  refine lv_iadd hx hb dL_law_783 ?_
  refine xs_ld (j := 10 * t + 3) hc hw hX_b hX2_b (nI_add (10 * t) 3) (by omega) (by omega) dL_law_784 ?_
  refine xc_Vi hc hw 7 0 (c_X7_work (xs (10 * t + 1)) (xs (10 * t + 2)) (xs (10 * t + 3)) nB hRm.B hR.K.B0 hRm.th Nat.zero_lt_one x_hm) rfl rfl (Nat.zero_lt_one) mw_891 mw_888 mw_4 mw_889 mw_890 xd_X7_work ⟨by decide, by decide⟩ (rfl) hl.1 (Nat.le_of_ble_eq_true rfl) dL_law_785 ⟨by show _ ≤ 601024; omega, by show _ ≤ 7293034; omega⟩ (fun r_785 σ_785 H locs hq hw => ?_)
  have hq_785 := hq
  obtain ⟨e1, e2, hRn⟩ := hst _ _ hq_785
  refine lv_istore (lv' := [(6, .int r_785), (5, .int r_761), (0, .ref b), (1, .ref (ad 6 0)), (2, .ref (ad 7 0)), (3, .ref (ad 8 0)), (4, .int (nI (10 * t)))]) hx hb dL_law_788 hl (by decide) rfl (fun ls hl => ?_)
  refine lv_aload_n hx hb dL_law_790 rfl (lv_at hl 4 rfl) ?_
  refine xc_Vi hc hw 7 0 (c_X7_thrown Nat.zero_lt_one x_hm) rfl rfl (Nat.zero_lt_one) mw_818 mw_815 mw_4 mw_816 mw_817 xd_X7_thrown ⟨by decide, by decide⟩ (rfl) hl.1 (Nat.le_of_ble_eq_true rfl) dL_law_791 ⟨by show _ ≤ 601024; omega, by show _ ≤ 7293034; omega⟩ (fun r_791 σ_791 H locs hq hw => ?_)
  obtain ⟨hσ_791, hr_791⟩ := hq
  rw [hσ_791] at hw
  refine lv_iload hx hb dL_law_794 (lv_at hl 1 rfl) ?_
  refine lv_icmp_eq (tgt := 801) hx hb dL_law_796 (by decide) (fun c_796 => ?_) (fun c_796 => ?_)
  · refine lv_iload hx hb dL_law_801 (lv_at hl 1 rfl) ?_
    refine lv_if_ne (tgt := 818) hx hb dL_law_803 (by decide) (fun c_803 => ?_) (fun c_803 => ?_)
    · refine lv_goto (tgt := 1602) hx hb dL_law_818 (by decide) ?_
      refine W.widen (k := cells + 40) (n := slots + 400) (by omega) (by omega) ?_
      exact cut_1602 _ _ _ _ _ _ hRn _ _ _ (lv_sub hl [2, 3, 4, 5, 6] rfl) hw
    · refine lv_aload_n hx hb dL_law_806 rfl (lv_at hl 5 rfl) ?_
      refine lv_iconst (v := 0) hx hb dL_law_807 (by decide) ?_
      refine xl_ld (j := 0) hc hw (Nat.zero_lt_one) rfl (by decide) dL_law_808 ?_
      refine lv_iload hx hb dL_law_809 (lv_at hl 0 rfl) ?_
      refine lv_i2l hx hb dL_law_811 rfl ?_
      refine W.lcmp hx hb dL_law_812 ?_
      refine lv_if_eq (tgt := 818) hx hb dL_law_813 (by decide) (fun c_813 => ?_) (fun c_813 => ?_)
      · refine lv_goto (tgt := 1602) hx hb dL_law_818 (by decide) ?_
        refine W.widen (k := cells + 40) (n := slots + 400) (by omega) (by omega) ?_
        exact cut_1602 _ _ _ _ _ _ hRn _ _ _ (lv_sub hl [2, 3, 4, 5, 6] rfl) hw
      · exact absurd c_813 (not_not_intro (by rw [e2 c_803]; exact x_lc0 _))
  · exact absurd c_796 (not_not_intro (hr_791.trans e1))
set_option maxHeartbeats 4000000 in
set_option maxRecDepth 100000 in
theorem lc_works {p : Program} {l : Launch} {e : Env} {s : State} {m : MethodId} {below : List Frame} {meth : Method} {c : Code} {b L : Nat} {xs : Nat → Int32} {D : va_G} {cs : Nat → ClassId} {base : Nat} {ad : Nat → Nat → Nat} {nS nB nC nO : Nat} {σ : x_St} {H : Heap} {locs : List Loc} {cells slots : Nat} {ls : Array Slot} {t : Nat} {Q : State → Prop} (hl0 : l.stackTraces = false) (hx : p.tables.exec = Jvm.exec) (hb : c.code = cL_law) (hc : CallFix p m c cL_law 7 s #[Value.ref b] Tw RL) (hX_b : va_X b L xs s s.heap) (hX2_b : b < base) (hL : L ≤ 5120) (ht : 10 * t + 10 ≤ L) (hce : cells + 40 ≤ 601024) (hsl : slots + 400 ≤ 7293034) (hR : Rl σ nS nB nC nO t) (hl : lv_has ls 7 [(0, .ref b), (1, .ref (ad 6 0)), (2, .ref (ad 7 0)), (3, .ref (ad 8 0)), (4, .int (nI (10 * t)))]) (hw : x_B D cs base ad (x_n nS nB nC nO) (x_s nS nB nC nO nS nC) σ s H locs)
    (cut_1602 : ∀ (ad' : Nat → Nat → Nat) (nS nB nC nO : Nat) (σ' : x_St), Rl σ' nS nB nC nO (t + 1) → ∀ (H : Heap) (locs : List Loc) (ls : Array Slot), lv_has ls 7 [(0, .ref b), (1, .ref (ad' 6 0)), (2, .ref (ad' 7 0)), (3, .ref (ad' 8 0)), (4, .int (nI (10 * t)))] → x_B D cs base ad' (x_n nS nB nC nO) (x_s nS nB nC nO nS nC) σ' s H locs → W p l e room_1 s m #[Value.ref b] below meth c H locs (cells + 40) (slots + 400) Q (F0 m 1602 ls [])) : W p l e room_1 s m #[Value.ref b] below meth c H locs cells slots Q (F0 m 821 ls []) := by
  refine lv_aload_n hx hb dL_law_821 rfl (lv_at hl 1 rfl) ?_
  refine lv_aload_n hx hb dL_law_822 rfl (lv_at hl 0 rfl) ?_
  refine lv_iload hx hb dL_law_823 (lv_at hl 4 rfl) ?_
  refine lv_iconst (v := 1) hx hb dL_law_825 (by decide) ?_
  refine lv_iadd hx hb dL_law_826 ?_
  refine xs_ld (j := 10 * t + 1) hc hw hX_b hX2_b (nI_add (10 * t) 1) (by omega) (by omega) dL_law_827 ?_
  refine lv_aload_n hx hb dL_law_828 rfl (lv_at hl 0 rfl) ?_
  refine lv_iload hx hb dL_law_829 (lv_at hl 4 rfl) ?_
  refine lv_iconst (v := 2) hx hb dL_law_831 (by decide) ?_
  refine lv_iadd hx hb dL_law_832 ?_
  refine xs_ld (j := 10 * t + 2) hc hw hX_b hX2_b (nI_add (10 * t) 2) (by omega) (by omega) dL_law_833 ?_
  refine lv_aload_n hx hb dL_law_834 rfl (lv_at hl 0 rfl) ?_
  refine lv_iload hx hb dL_law_835 (lv_at hl 4 rfl) ?_
  refine lv_iconst (v := 3) hx hb dL_law_837 (by decide) ?_
  refine lv_iadd hx hb dL_law_838 ?_
  refine xs_ld (j := 10 * t + 3) hc hw hX_b hX2_b (nI_add (10 * t) 3) (by omega) (by omega) dL_law_839 ?_
  refine lv_aload_n hx hb dL_law_840 rfl (lv_at hl 0 rfl) ?_
  refine lv_iload hx hb dL_law_841 (lv_at hl 4 rfl) ?_
  refine lv_iconst (v := 4) hx hb dL_law_843 (by decide) ?_
  refine lv_iadd hx hb dL_law_844 ?_
  refine xs_ld (j := 10 * t + 4) hc hw hX_b hX2_b (nI_add (10 * t) 4) (by omega) (by omega) dL_law_845 ?_
  refine lv_aload_n hx hb dL_law_846 rfl (lv_at hl 3 rfl) ?_
  refine xc_Wi hc hw (c_L_works hl0 (xs (10 * t + 1)) (xs (10 * t + 2)) (xs (10 * t + 3)) (xs (10 * t + 4)) hR.K.B hR.K.B0) mw_511 mw_509 mw_0 mw_510 xd_L_works ⟨by decide, by decide⟩ (rfl) hl.1 (Nat.le_of_ble_eq_true rfl) dL_law_847 ⟨by show _ ≤ 601024; omega, by show _ ≤ 7293034; omega⟩ (fun r_847 σ_847 H locs hq hw => ?_)
  have hq_847 := hq
  obtain ⟨hkp, hst⟩ := sp_works hR hq_847
  have hRm := hR.rm.mv hkp
  refine lv_istore (lv' := [(5, .int r_847), (0, .ref b), (1, .ref (ad 6 0)), (2, .ref (ad 7 0)), (3, .ref (ad 8 0)), (4, .int (nI (10 * t)))]) hx hb dL_law_850 hl (by decide) rfl (fun ls hl => ?_)
  refine lv_aload_n hx hb dL_law_852 rfl (lv_at hl 3 rfl) ?_
  refine lv_aload_n hx hb dL_law_853 rfl (lv_at hl 1 rfl) ?_
  refine lv_iload hx hb dL_law_854 (lv_at hl 5 rfl) ?_
  refine lv_iconst (v := 1) hx hb dL_law_856 (by decide) ?_
  refine lv_iadd hx hb dL_law_857 ?_
  refine xs_ld (j := 10 * t + 1) hc hw hX_b hX2_b (nI_add (10 * t) 1) (by omega) (by omega) dL_law_858 ?_
  refine lv_aload_n hx hb dL_law_859 rfl (lv_at hl 1 rfl) ?_
  refine lv_iload hx hb dL_law_860 (lv_at hl 5 rfl) ?_
  refine lv_iconst (v := 2) hx hb dL_law_862 (by decide) ?_
  refine lv_iadd hx hb dL_law_863 ?_
  refine xs_ld (j := 10 * t + 2) hc hw hX_b hX2_b (nI_add (10 * t) 2) (by omega) (by omega) dL_law_864 ?_
  refine lv_aload_n hx hb dL_law_865 rfl (lv_at hl 1 rfl) ?_
  refine lv_iload hx hb dL_law_866 (lv_at hl 5 rfl) ?_
  refine lv_iconst (v := 3) hx hb dL_law_868 (by decide) ?_
  refine lv_iadd hx hb dL_law_869 ?_
  refine xs_ld (j := 10 * t + 3) hc hw hX_b hX2_b (nI_add (10 * t) 3) (by omega) (by omega) dL_law_870 ?_
  refine lv_aload_n hx hb dL_law_871 rfl (lv_at hl 1 rfl) ?_
  refine lv_iload hx hb dL_law_872 (lv_at hl 5 rfl) ?_
  refine lv_iconst (v := 4) hx hb dL_law_874 (by decide) ?_
  refine lv_iadd hx hb dL_law_875 ?_
  refine xs_ld (j := 10 * t + 4) hc hw hX_b hX2_b (nI_add (10 * t) 4) (by omega) (by omega) dL_law_876 ?_
  refine xc_Vi hc hw 7 0 (c_X7_works (xs (10 * t + 1)) (xs (10 * t + 2)) (xs (10 * t + 3)) (xs (10 * t + 4)) nB hRm.B hR.K.B0 hRm.th Nat.zero_lt_one x_hm) rfl rfl (Nat.zero_lt_one) mw_899 mw_896 mw_4 mw_897 mw_898 xd_X7_works ⟨by decide, by decide⟩ (rfl) hl.1 (Nat.le_of_ble_eq_true rfl) dL_law_877 ⟨by show _ ≤ 601024; omega, by show _ ≤ 7293034; omega⟩ (fun r_877 σ_877 H locs hq hw => ?_)
  have hq_877 := hq
  obtain ⟨e1, e2, hRn⟩ := hst _ _ hq_877
  refine lv_istore (lv' := [(6, .int r_877), (5, .int r_847), (0, .ref b), (1, .ref (ad 6 0)), (2, .ref (ad 7 0)), (3, .ref (ad 8 0)), (4, .int (nI (10 * t)))]) hx hb dL_law_880 hl (by decide) rfl (fun ls hl => ?_)
  refine lv_aload_n hx hb dL_law_882 rfl (lv_at hl 4 rfl) ?_
  refine xc_Vi hc hw 7 0 (c_X7_thrown Nat.zero_lt_one x_hm) rfl rfl (Nat.zero_lt_one) mw_818 mw_815 mw_4 mw_816 mw_817 xd_X7_thrown ⟨by decide, by decide⟩ (rfl) hl.1 (Nat.le_of_ble_eq_true rfl) dL_law_883 ⟨by show _ ≤ 601024; omega, by show _ ≤ 7293034; omega⟩ (fun r_883 σ_883 H locs hq hw => ?_)
  obtain ⟨hσ_883, hr_883⟩ := hq
  rw [hσ_883] at hw
  refine lv_iload hx hb dL_law_886 (lv_at hl 1 rfl) ?_
  refine lv_icmp_eq (tgt := 893) hx hb dL_law_888 (by decide) (fun c_888 => ?_) (fun c_888 => ?_)
  · refine lv_iload hx hb dL_law_893 (lv_at hl 1 rfl) ?_
    refine lv_if_ne (tgt := 910) hx hb dL_law_895 (by decide) (fun c_895 => ?_) (fun c_895 => ?_)
    · refine lv_goto (tgt := 1602) hx hb dL_law_910 (by decide) ?_
      refine W.widen (k := cells + 40) (n := slots + 400) (by omega) (by omega) ?_
      exact cut_1602 _ _ _ _ _ _ hRn _ _ _ (lv_sub hl [2, 3, 4, 5, 6] rfl) hw
    · refine lv_aload_n hx hb dL_law_898 rfl (lv_at hl 5 rfl) ?_
      refine lv_iconst (v := 0) hx hb dL_law_899 (by decide) ?_
      refine xl_ld (j := 0) hc hw (Nat.zero_lt_one) rfl (by decide) dL_law_900 ?_
      refine lv_iload hx hb dL_law_901 (lv_at hl 0 rfl) ?_
      refine lv_i2l hx hb dL_law_903 rfl ?_
      refine W.lcmp hx hb dL_law_904 ?_
      refine lv_if_eq (tgt := 910) hx hb dL_law_905 (by decide) (fun c_905 => ?_) (fun c_905 => ?_)
      · refine lv_goto (tgt := 1602) hx hb dL_law_910 (by decide) ?_
        refine W.widen (k := cells + 40) (n := slots + 400) (by omega) (by omega) ?_
        exact cut_1602 _ _ _ _ _ _ hRn _ _ _ (lv_sub hl [2, 3, 4, 5, 6] rfl) hw
      · exact absurd c_905 (not_not_intro (by rw [e2 c_895]; exact x_lc0 _))
  · exact absurd c_888 (not_not_intro (hr_883.trans e1))
set_option maxHeartbeats 4000000 in
set_option maxRecDepth 100000 in
theorem lc_grind {p : Program} {l : Launch} {e : Env} {s : State} {m : MethodId} {below : List Frame} {meth : Method} {c : Code} {b L : Nat} {xs : Nat → Int32} {D : va_G} {cs : Nat → ClassId} {base : Nat} {ad : Nat → Nat → Nat} {nS nB nC nO : Nat} {σ : x_St} {H : Heap} {locs : List Loc} {cells slots : Nat} {ls : Array Slot} {t : Nat} {Q : State → Prop} (hl0 : l.stackTraces = false) (hx : p.tables.exec = Jvm.exec) (hb : c.code = cL_law) (hc : CallFix p m c cL_law 7 s #[Value.ref b] Tw RL) (hX_b : va_X b L xs s s.heap) (hX2_b : b < base) (hL : L ≤ 5120) (ht : 10 * t + 10 ≤ L) (hce : cells + 40 ≤ 601024) (hsl : slots + 400 ≤ 7293034) (hR : Rl σ nS nB nC nO t) (hl : lv_has ls 7 [(0, .ref b), (1, .ref (ad 6 0)), (2, .ref (ad 7 0)), (3, .ref (ad 8 0)), (4, .int (nI (10 * t)))]) (hw : x_B D cs base ad (x_n nS nB nC nO) (x_s nS nB nC nO nS nC) σ s H locs)
    (cut_1602 : ∀ (ad' : Nat → Nat → Nat) (nS nB nC nO : Nat) (σ' : x_St), Rl σ' nS nB nC nO (t + 1) → ∀ (H : Heap) (locs : List Loc) (ls : Array Slot), lv_has ls 7 [(0, .ref b), (1, .ref (ad' 6 0)), (2, .ref (ad' 7 0)), (3, .ref (ad' 8 0)), (4, .int (nI (10 * t)))] → x_B D cs base ad' (x_n nS nB nC nO) (x_s nS nB nC nO nS nC) σ' s H locs → W p l e room_1 s m #[Value.ref b] below meth c H locs (cells + 40) (slots + 400) Q (F0 m 1602 ls [])) : W p l e room_1 s m #[Value.ref b] below meth c H locs cells slots Q (F0 m 913 ls []) := by
  refine lv_aload_n hx hb dL_law_913 rfl (lv_at hl 1 rfl) ?_
  refine lv_aload_n hx hb dL_law_914 rfl (lv_at hl 0 rfl) ?_
  refine lv_iload hx hb dL_law_915 (lv_at hl 4 rfl) ?_
  refine lv_iconst (v := 1) hx hb dL_law_917 (by decide) ?_
  refine lv_iadd hx hb dL_law_918 ?_
  refine xs_ld (j := 10 * t + 1) hc hw hX_b hX2_b (nI_add (10 * t) 1) (by omega) (by omega) dL_law_919 ?_
  refine lv_aload_n hx hb dL_law_920 rfl (lv_at hl 3 rfl) ?_
  refine xc_Wi hc hw (c_L_grind hl0 (xs (10 * t + 1))) mw_520 mw_518 mw_0 mw_519 xd_L_grind ⟨by decide, by decide⟩ (rfl) hl.1 (Nat.le_of_ble_eq_true rfl) dL_law_921 ⟨by show _ ≤ 601024; omega, by show _ ≤ 7293034; omega⟩ (fun r_921 σ_921 H locs hq hw => ?_)
  have hq_921 := hq
  obtain ⟨hkp, hst⟩ := sp_grind hR hq_921
  have hRm := hR.rm.mv hkp
  refine lv_istore (lv' := [(5, .int r_921), (0, .ref b), (1, .ref (ad 6 0)), (2, .ref (ad 7 0)), (3, .ref (ad 8 0)), (4, .int (nI (10 * t)))]) hx hb dL_law_924 hl (by decide) rfl (fun ls hl => ?_)
  refine lv_aload_n hx hb dL_law_926 rfl (lv_at hl 3 rfl) ?_
  refine lv_aload_n hx hb dL_law_927 rfl (lv_at hl 1 rfl) ?_
  refine lv_iload hx hb dL_law_928 (lv_at hl 5 rfl) ?_
  refine lv_iconst (v := 1) hx hb dL_law_930 (by decide) ?_
  refine lv_iadd hx hb dL_law_931 ?_
  refine xs_ld (j := 10 * t + 1) hc hw hX_b hX2_b (nI_add (10 * t) 1) (by omega) (by omega) dL_law_932 ?_
  refine xc_Vi hc hw 7 0 (c_X7_grind (xs (10 * t + 1)) Nat.zero_lt_one x_hm) rfl rfl (Nat.zero_lt_one) mw_903 mw_900 mw_4 mw_901 mw_902 xd_X7_grind ⟨by decide, by decide⟩ (rfl) hl.1 (Nat.le_of_ble_eq_true rfl) dL_law_933 ⟨by show _ ≤ 601024; omega, by show _ ≤ 7293034; omega⟩ (fun r_933 σ_933 H locs hq hw => ?_)
  have hq_933 := hq
  obtain ⟨e1, e2, hRn⟩ := hst _ _ hq_933
  refine lv_istore (lv' := [(6, .int r_933), (5, .int r_921), (0, .ref b), (1, .ref (ad 6 0)), (2, .ref (ad 7 0)), (3, .ref (ad 8 0)), (4, .int (nI (10 * t)))]) hx hb dL_law_936 hl (by decide) rfl (fun ls hl => ?_)
  refine lv_aload_n hx hb dL_law_938 rfl (lv_at hl 4 rfl) ?_
  refine xc_Vi hc hw 7 0 (c_X7_thrown Nat.zero_lt_one x_hm) rfl rfl (Nat.zero_lt_one) mw_818 mw_815 mw_4 mw_816 mw_817 xd_X7_thrown ⟨by decide, by decide⟩ (rfl) hl.1 (Nat.le_of_ble_eq_true rfl) dL_law_939 ⟨by show _ ≤ 601024; omega, by show _ ≤ 7293034; omega⟩ (fun r_939 σ_939 H locs hq hw => ?_)
  obtain ⟨hσ_939, hr_939⟩ := hq
  rw [hσ_939] at hw
  refine lv_iload hx hb dL_law_942 (lv_at hl 1 rfl) ?_
  refine lv_icmp_eq (tgt := 949) hx hb dL_law_944 (by decide) (fun c_944 => ?_) (fun c_944 => ?_)
  · refine lv_iload hx hb dL_law_949 (lv_at hl 1 rfl) ?_
    refine lv_if_ne (tgt := 966) hx hb dL_law_951 (by decide) (fun c_951 => ?_) (fun c_951 => ?_)
    · refine lv_goto (tgt := 1602) hx hb dL_law_966 (by decide) ?_
      refine W.widen (k := cells + 40) (n := slots + 400) (by omega) (by omega) ?_
      exact cut_1602 _ _ _ _ _ _ hRn _ _ _ (lv_sub hl [2, 3, 4, 5, 6] rfl) hw
    · refine lv_aload_n hx hb dL_law_954 rfl (lv_at hl 5 rfl) ?_
      refine lv_iconst (v := 0) hx hb dL_law_955 (by decide) ?_
      refine xl_ld (j := 0) hc hw (Nat.zero_lt_one) rfl (by decide) dL_law_956 ?_
      refine lv_iload hx hb dL_law_957 (lv_at hl 0 rfl) ?_
      refine lv_i2l hx hb dL_law_959 rfl ?_
      refine W.lcmp hx hb dL_law_960 ?_
      refine lv_if_eq (tgt := 966) hx hb dL_law_961 (by decide) (fun c_961 => ?_) (fun c_961 => ?_)
      · refine lv_goto (tgt := 1602) hx hb dL_law_966 (by decide) ?_
        refine W.widen (k := cells + 40) (n := slots + 400) (by omega) (by omega) ?_
        exact cut_1602 _ _ _ _ _ _ hRn _ _ _ (lv_sub hl [2, 3, 4, 5, 6] rfl) hw
      · exact absurd c_961 (not_not_intro (by rw [e2 c_951]; exact x_lc0 _))
  · exact absurd c_944 (not_not_intro (hr_939.trans e1))
set_option maxHeartbeats 4000000 in
set_option maxRecDepth 100000 in
theorem lc_machine {p : Program} {l : Launch} {e : Env} {s : State} {m : MethodId} {below : List Frame} {meth : Method} {c : Code} {b L : Nat} {xs : Nat → Int32} {D : va_G} {cs : Nat → ClassId} {base : Nat} {ad : Nat → Nat → Nat} {nS nB nC nO : Nat} {σ : x_St} {H : Heap} {locs : List Loc} {cells slots : Nat} {ls : Array Slot} {t : Nat} {Q : State → Prop} (hl0 : l.stackTraces = false) (hx : p.tables.exec = Jvm.exec) (hb : c.code = cL_law) (hc : CallFix p m c cL_law 7 s #[Value.ref b] Tw RL) (hX_b : va_X b L xs s s.heap) (hX2_b : b < base) (hL : L ≤ 5120) (ht : 10 * t + 10 ≤ L) (hce : cells + 40 ≤ 601024) (hsl : slots + 400 ≤ 7293034) (hR : Rl σ nS nB nC nO t) (hl : lv_has ls 7 [(0, .ref b), (1, .ref (ad 6 0)), (2, .ref (ad 7 0)), (3, .ref (ad 8 0)), (4, .int (nI (10 * t)))]) (hw : x_B D cs base ad (x_n nS nB nC nO) (x_s nS nB nC nO nS nC) σ s H locs)
    (cut_1602 : ∀ (ad' : Nat → Nat → Nat) (nS nB nC nO : Nat) (σ' : x_St), Rl σ' nS nB nC nO (t + 1) → ∀ (H : Heap) (locs : List Loc) (ls : Array Slot), lv_has ls 7 [(0, .ref b), (1, .ref (ad' 6 0)), (2, .ref (ad' 7 0)), (3, .ref (ad' 8 0)), (4, .int (nI (10 * t)))] → x_B D cs base ad' (x_n nS nB nC nO) (x_s nS nB nC nO nS nC) σ' s H locs → W p l e room_1 s m #[Value.ref b] below meth c H locs (cells + 40) (slots + 400) Q (F0 m 1602 ls [])) : W p l e room_1 s m #[Value.ref b] below meth c H locs cells slots Q (F0 m 969 ls []) := by
  refine lv_aload_n hx hb dL_law_969 rfl (lv_at hl 1 rfl) ?_
  refine lv_aload_n hx hb dL_law_970 rfl (lv_at hl 0 rfl) ?_
  refine lv_iload hx hb dL_law_971 (lv_at hl 4 rfl) ?_
  refine lv_iconst (v := 1) hx hb dL_law_973 (by decide) ?_
  refine lv_iadd hx hb dL_law_974 ?_
  refine xs_ld (j := 10 * t + 1) hc hw hX_b hX2_b (nI_add (10 * t) 1) (by omega) (by omega) dL_law_975 ?_
  refine lv_aload_n hx hb dL_law_976 rfl (lv_at hl 0 rfl) ?_
  refine lv_iload hx hb dL_law_977 (lv_at hl 4 rfl) ?_
  refine lv_iconst (v := 2) hx hb dL_law_979 (by decide) ?_
  refine lv_iadd hx hb dL_law_980 ?_
  refine xs_ld (j := 10 * t + 2) hc hw hX_b hX2_b (nI_add (10 * t) 2) (by omega) (by omega) dL_law_981 ?_
  refine lv_aload_n hx hb dL_law_982 rfl (lv_at hl 3 rfl) ?_
  refine xc_Wi hc hw (c_L_machine hl0 (xs (10 * t + 1)) (xs (10 * t + 2))) mw_527 mw_525 mw_0 mw_526 xd_L_machine ⟨by decide, by decide⟩ (rfl) hl.1 (Nat.le_of_ble_eq_true rfl) dL_law_983 ⟨by show _ ≤ 601024; omega, by show _ ≤ 7293034; omega⟩ (fun r_983 σ_983 H locs hq hw => ?_)
  have hq_983 := hq
  obtain ⟨hkp, hst⟩ := sp_machine hR hq_983
  have hRm := hR.rm.mv hkp
  refine lv_istore (lv' := [(5, .int r_983), (0, .ref b), (1, .ref (ad 6 0)), (2, .ref (ad 7 0)), (3, .ref (ad 8 0)), (4, .int (nI (10 * t)))]) hx hb dL_law_986 hl (by decide) rfl (fun ls hl => ?_)
  refine lv_aload_n hx hb dL_law_988 rfl (lv_at hl 3 rfl) ?_
  refine lv_aload_n hx hb dL_law_989 rfl (lv_at hl 1 rfl) ?_
  refine lv_iload hx hb dL_law_990 (lv_at hl 5 rfl) ?_
  refine lv_iconst (v := 1) hx hb dL_law_992 (by decide) ?_
  refine lv_iadd hx hb dL_law_993 ?_
  refine xs_ld (j := 10 * t + 1) hc hw hX_b hX2_b (nI_add (10 * t) 1) (by omega) (by omega) dL_law_994 ?_
  refine lv_aload_n hx hb dL_law_995 rfl (lv_at hl 1 rfl) ?_
  refine lv_iload hx hb dL_law_996 (lv_at hl 5 rfl) ?_
  refine lv_iconst (v := 2) hx hb dL_law_998 (by decide) ?_
  refine lv_iadd hx hb dL_law_999 ?_
  refine xs_ld (j := 10 * t + 2) hc hw hX_b hX2_b (nI_add (10 * t) 2) (by omega) (by omega) dL_law_1000 ?_
  refine xc_Vi hc hw 7 0 (c_X7_machine (xs (10 * t + 1)) (xs (10 * t + 2)) Nat.zero_lt_one x_hm) rfl rfl (Nat.zero_lt_one) mw_907 mw_904 mw_4 mw_905 mw_906 xd_X7_machine ⟨by decide, by decide⟩ (rfl) hl.1 (Nat.le_of_ble_eq_true rfl) dL_law_1001 ⟨by show _ ≤ 601024; omega, by show _ ≤ 7293034; omega⟩ (fun r_1001 σ_1001 H locs hq hw => ?_)
  have hq_1001 := hq
  obtain ⟨e1, e2, hRn⟩ := hst _ _ hq_1001
  refine lv_istore (lv' := [(6, .int r_1001), (5, .int r_983), (0, .ref b), (1, .ref (ad 6 0)), (2, .ref (ad 7 0)), (3, .ref (ad 8 0)), (4, .int (nI (10 * t)))]) hx hb dL_law_1004 hl (by decide) rfl (fun ls hl => ?_)
  refine lv_aload_n hx hb dL_law_1006 rfl (lv_at hl 4 rfl) ?_
  refine xc_Vi hc hw 7 0 (c_X7_thrown Nat.zero_lt_one x_hm) rfl rfl (Nat.zero_lt_one) mw_818 mw_815 mw_4 mw_816 mw_817 xd_X7_thrown ⟨by decide, by decide⟩ (rfl) hl.1 (Nat.le_of_ble_eq_true rfl) dL_law_1007 ⟨by show _ ≤ 601024; omega, by show _ ≤ 7293034; omega⟩ (fun r_1007 σ_1007 H locs hq hw => ?_)
  obtain ⟨hσ_1007, hr_1007⟩ := hq
  rw [hσ_1007] at hw
  refine lv_iload hx hb dL_law_1010 (lv_at hl 1 rfl) ?_
  refine lv_icmp_eq (tgt := 1017) hx hb dL_law_1012 (by decide) (fun c_1012 => ?_) (fun c_1012 => ?_)
  · refine lv_iload hx hb dL_law_1017 (lv_at hl 1 rfl) ?_
    refine lv_if_ne (tgt := 1034) hx hb dL_law_1019 (by decide) (fun c_1019 => ?_) (fun c_1019 => ?_)
    · refine lv_goto (tgt := 1602) hx hb dL_law_1034 (by decide) ?_
      refine W.widen (k := cells + 40) (n := slots + 400) (by omega) (by omega) ?_
      exact cut_1602 _ _ _ _ _ _ hRn _ _ _ (lv_sub hl [2, 3, 4, 5, 6] rfl) hw
    · refine lv_aload_n hx hb dL_law_1022 rfl (lv_at hl 5 rfl) ?_
      refine lv_iconst (v := 0) hx hb dL_law_1023 (by decide) ?_
      refine xl_ld (j := 0) hc hw (Nat.zero_lt_one) rfl (by decide) dL_law_1024 ?_
      refine lv_iload hx hb dL_law_1025 (lv_at hl 0 rfl) ?_
      refine lv_i2l hx hb dL_law_1027 rfl ?_
      refine W.lcmp hx hb dL_law_1028 ?_
      refine lv_if_eq (tgt := 1034) hx hb dL_law_1029 (by decide) (fun c_1029 => ?_) (fun c_1029 => ?_)
      · refine lv_goto (tgt := 1602) hx hb dL_law_1034 (by decide) ?_
        refine W.widen (k := cells + 40) (n := slots + 400) (by omega) (by omega) ?_
        exact cut_1602 _ _ _ _ _ _ hRn _ _ _ (lv_sub hl [2, 3, 4, 5, 6] rfl) hw
      · exact absurd c_1029 (not_not_intro (by rw [e2 c_1019]; exact x_lc0 _))
  · exact absurd c_1012 (not_not_intro (hr_1007.trans e1))
set_option maxHeartbeats 4000000 in
set_option maxRecDepth 100000 in
theorem lc_bleach {p : Program} {l : Launch} {e : Env} {s : State} {m : MethodId} {below : List Frame} {meth : Method} {c : Code} {b L : Nat} {xs : Nat → Int32} {D : va_G} {cs : Nat → ClassId} {base : Nat} {ad : Nat → Nat → Nat} {nS nB nC nO : Nat} {σ : x_St} {H : Heap} {locs : List Loc} {cells slots : Nat} {ls : Array Slot} {t : Nat} {Q : State → Prop} (hl0 : l.stackTraces = false) (hx : p.tables.exec = Jvm.exec) (hb : c.code = cL_law) (hc : CallFix p m c cL_law 7 s #[Value.ref b] Tw RL) (hX_b : va_X b L xs s s.heap) (hX2_b : b < base) (hL : L ≤ 5120) (ht : 10 * t + 10 ≤ L) (hce : cells + 40 ≤ 601024) (hsl : slots + 400 ≤ 7293034) (hR : Rl σ nS nB nC nO t) (hl : lv_has ls 7 [(0, .ref b), (1, .ref (ad 6 0)), (2, .ref (ad 7 0)), (3, .ref (ad 8 0)), (4, .int (nI (10 * t)))]) (hw : x_B D cs base ad (x_n nS nB nC nO) (x_s nS nB nC nO nS nC) σ s H locs)
    (cut_1602 : ∀ (ad' : Nat → Nat → Nat) (nS nB nC nO : Nat) (σ' : x_St), Rl σ' nS nB nC nO (t + 1) → ∀ (H : Heap) (locs : List Loc) (ls : Array Slot), lv_has ls 7 [(0, .ref b), (1, .ref (ad' 6 0)), (2, .ref (ad' 7 0)), (3, .ref (ad' 8 0)), (4, .int (nI (10 * t)))] → x_B D cs base ad' (x_n nS nB nC nO) (x_s nS nB nC nO nS nC) σ' s H locs → W p l e room_1 s m #[Value.ref b] below meth c H locs (cells + 40) (slots + 400) Q (F0 m 1602 ls [])) : W p l e room_1 s m #[Value.ref b] below meth c H locs cells slots Q (F0 m 1037 ls []) := by
  refine lv_aload_n hx hb dL_law_1037 rfl (lv_at hl 1 rfl) ?_
  refine lv_aload_n hx hb dL_law_1038 rfl (lv_at hl 0 rfl) ?_
  refine lv_iload hx hb dL_law_1039 (lv_at hl 4 rfl) ?_
  refine lv_iconst (v := 1) hx hb dL_law_1041 (by decide) ?_
  refine lv_iadd hx hb dL_law_1042 ?_
  refine xs_ld (j := 10 * t + 1) hc hw hX_b hX2_b (nI_add (10 * t) 1) (by omega) (by omega) dL_law_1043 ?_
  refine lv_aload_n hx hb dL_law_1044 rfl (lv_at hl 0 rfl) ?_
  refine lv_iload hx hb dL_law_1045 (lv_at hl 4 rfl) ?_
  refine lv_iconst (v := 2) hx hb dL_law_1047 (by decide) ?_
  refine lv_iadd hx hb dL_law_1048 ?_
  refine xs_ld (j := 10 * t + 2) hc hw hX_b hX2_b (nI_add (10 * t) 2) (by omega) (by omega) dL_law_1049 ?_
  refine lv_aload_n hx hb dL_law_1050 rfl (lv_at hl 3 rfl) ?_
  refine xc_Wi hc hw (c_L_bleach hl0 (xs (10 * t + 1)) (xs (10 * t + 2)) hR.K.S hR.K.S0 hR.K.B hR.K.B0) mw_535 mw_533 mw_0 mw_534 xd_L_bleach ⟨by decide, by decide⟩ (rfl) hl.1 (Nat.le_of_ble_eq_true rfl) dL_law_1051 ⟨by show _ ≤ 601024; omega, by show _ ≤ 7293034; omega⟩ (fun r_1051 σ_1051 H locs hq hw => ?_)
  have hq_1051 := hq
  obtain ⟨hkp, hst⟩ := sp_bleach hR hq_1051
  have hRm := hR.rm.mv hkp
  refine lv_istore (lv' := [(5, .int r_1051), (0, .ref b), (1, .ref (ad 6 0)), (2, .ref (ad 7 0)), (3, .ref (ad 8 0)), (4, .int (nI (10 * t)))]) hx hb dL_law_1054 hl (by decide) rfl (fun ls hl => ?_)
  refine lv_aload_n hx hb dL_law_1056 rfl (lv_at hl 3 rfl) ?_
  refine lv_aload_n hx hb dL_law_1057 rfl (lv_at hl 1 rfl) ?_
  refine lv_iload hx hb dL_law_1058 (lv_at hl 5 rfl) ?_
  refine lv_iconst (v := 1) hx hb dL_law_1060 (by decide) ?_
  refine lv_iadd hx hb dL_law_1061 ?_
  refine xs_ld (j := 10 * t + 1) hc hw hX_b hX2_b (nI_add (10 * t) 1) (by omega) (by omega) dL_law_1062 ?_
  refine lv_aload_n hx hb dL_law_1063 rfl (lv_at hl 1 rfl) ?_
  refine lv_iload hx hb dL_law_1064 (lv_at hl 5 rfl) ?_
  refine lv_iconst (v := 2) hx hb dL_law_1066 (by decide) ?_
  refine lv_iadd hx hb dL_law_1067 ?_
  refine xs_ld (j := 10 * t + 2) hc hw hX_b hX2_b (nI_add (10 * t) 2) (by omega) (by omega) dL_law_1068 ?_
  refine xc_Vi hc hw 7 0 (c_X7_bleach (xs (10 * t + 1)) (xs (10 * t + 2)) nS hRm.S hR.K.S0 nB hRm.B hR.K.B0 Nat.zero_lt_one x_hm) rfl rfl (Nat.zero_lt_one) mw_911 mw_908 mw_4 mw_909 mw_910 xd_X7_bleach ⟨by decide, by decide⟩ (rfl) hl.1 (Nat.le_of_ble_eq_true rfl) dL_law_1069 ⟨by show _ ≤ 601024; omega, by show _ ≤ 7293034; omega⟩ (fun r_1069 σ_1069 H locs hq hw => ?_)
  have hq_1069 := hq
  obtain ⟨e1, e2, hRn⟩ := hst _ _ hq_1069
  refine lv_istore (lv' := [(6, .int r_1069), (5, .int r_1051), (0, .ref b), (1, .ref (ad 6 0)), (2, .ref (ad 7 0)), (3, .ref (ad 8 0)), (4, .int (nI (10 * t)))]) hx hb dL_law_1072 hl (by decide) rfl (fun ls hl => ?_)
  refine lv_aload_n hx hb dL_law_1074 rfl (lv_at hl 4 rfl) ?_
  refine xc_Vi hc hw 7 0 (c_X7_thrown Nat.zero_lt_one x_hm) rfl rfl (Nat.zero_lt_one) mw_818 mw_815 mw_4 mw_816 mw_817 xd_X7_thrown ⟨by decide, by decide⟩ (rfl) hl.1 (Nat.le_of_ble_eq_true rfl) dL_law_1075 ⟨by show _ ≤ 601024; omega, by show _ ≤ 7293034; omega⟩ (fun r_1075 σ_1075 H locs hq hw => ?_)
  obtain ⟨hσ_1075, hr_1075⟩ := hq
  rw [hσ_1075] at hw
  refine lv_iload hx hb dL_law_1078 (lv_at hl 1 rfl) ?_
  refine lv_icmp_eq (tgt := 1085) hx hb dL_law_1080 (by decide) (fun c_1080 => ?_) (fun c_1080 => ?_)
  · refine lv_iload hx hb dL_law_1085 (lv_at hl 1 rfl) ?_
    refine lv_if_ne (tgt := 1102) hx hb dL_law_1087 (by decide) (fun c_1087 => ?_) (fun c_1087 => ?_)
    · refine lv_goto (tgt := 1602) hx hb dL_law_1102 (by decide) ?_
      refine W.widen (k := cells + 40) (n := slots + 400) (by omega) (by omega) ?_
      exact cut_1602 _ _ _ _ _ _ hRn _ _ _ (lv_sub hl [2, 3, 4, 5, 6] rfl) hw
    · refine lv_aload_n hx hb dL_law_1090 rfl (lv_at hl 5 rfl) ?_
      refine lv_iconst (v := 0) hx hb dL_law_1091 (by decide) ?_
      refine xl_ld (j := 0) hc hw (Nat.zero_lt_one) rfl (by decide) dL_law_1092 ?_
      refine lv_iload hx hb dL_law_1093 (lv_at hl 0 rfl) ?_
      refine lv_i2l hx hb dL_law_1095 rfl ?_
      refine W.lcmp hx hb dL_law_1096 ?_
      refine lv_if_eq (tgt := 1102) hx hb dL_law_1097 (by decide) (fun c_1097 => ?_) (fun c_1097 => ?_)
      · refine lv_goto (tgt := 1602) hx hb dL_law_1102 (by decide) ?_
        refine W.widen (k := cells + 40) (n := slots + 400) (by omega) (by omega) ?_
        exact cut_1602 _ _ _ _ _ _ hRn _ _ _ (lv_sub hl [2, 3, 4, 5, 6] rfl) hw
      · exact absurd c_1097 (not_not_intro (by rw [e2 c_1087]; exact x_lc0 _))
  · exact absurd c_1080 (not_not_intro (hr_1075.trans e1))
set_option maxHeartbeats 4000000 in
set_option maxRecDepth 100000 in
theorem lc_card {p : Program} {l : Launch} {e : Env} {s : State} {m : MethodId} {below : List Frame} {meth : Method} {c : Code} {b L : Nat} {xs : Nat → Int32} {D : va_G} {cs : Nat → ClassId} {base : Nat} {ad : Nat → Nat → Nat} {nS nB nC nO : Nat} {σ : x_St} {H : Heap} {locs : List Loc} {cells slots : Nat} {ls : Array Slot} {t : Nat} {Q : State → Prop} (hl0 : l.stackTraces = false) (hx : p.tables.exec = Jvm.exec) (hb : c.code = cL_law) (hc : CallFix p m c cL_law 7 s #[Value.ref b] Tw RL) (hX_b : va_X b L xs s s.heap) (hX2_b : b < base) (hL : L ≤ 5120) (ht : 10 * t + 10 ≤ L) (hce : cells + 40 ≤ 601024) (hsl : slots + 400 ≤ 7293034) (hR : Rl σ nS nB nC nO t) (hl : lv_has ls 7 [(0, .ref b), (1, .ref (ad 6 0)), (2, .ref (ad 7 0)), (3, .ref (ad 8 0)), (4, .int (nI (10 * t)))]) (hw : x_B D cs base ad (x_n nS nB nC nO) (x_s nS nB nC nO nS nC) σ s H locs)
    (cut_1602 : ∀ (ad' : Nat → Nat → Nat) (nS nB nC nO : Nat) (σ' : x_St), Rl σ' nS nB nC nO (t + 1) → ∀ (H : Heap) (locs : List Loc) (ls : Array Slot), lv_has ls 7 [(0, .ref b), (1, .ref (ad' 6 0)), (2, .ref (ad' 7 0)), (3, .ref (ad' 8 0)), (4, .int (nI (10 * t)))] → x_B D cs base ad' (x_n nS nB nC nO) (x_s nS nB nC nO nS nC) σ' s H locs → W p l e room_1 s m #[Value.ref b] below meth c H locs (cells + 40) (slots + 400) Q (F0 m 1602 ls [])) : W p l e room_1 s m #[Value.ref b] below meth c H locs cells slots Q (F0 m 1105 ls []) := by
  refine lv_aload_n hx hb dL_law_1105 rfl (lv_at hl 1 rfl) ?_
  refine lv_aload_n hx hb dL_law_1106 rfl (lv_at hl 0 rfl) ?_
  refine lv_iload hx hb dL_law_1107 (lv_at hl 4 rfl) ?_
  refine lv_iconst (v := 1) hx hb dL_law_1109 (by decide) ?_
  refine lv_iadd hx hb dL_law_1110 ?_
  refine xs_ld (j := 10 * t + 1) hc hw hX_b hX2_b (nI_add (10 * t) 1) (by omega) (by omega) dL_law_1111 ?_
  refine lv_aload_n hx hb dL_law_1112 rfl (lv_at hl 0 rfl) ?_
  refine lv_iload hx hb dL_law_1113 (lv_at hl 4 rfl) ?_
  refine lv_iconst (v := 2) hx hb dL_law_1115 (by decide) ?_
  refine lv_iadd hx hb dL_law_1116 ?_
  refine xs_ld (j := 10 * t + 2) hc hw hX_b hX2_b (nI_add (10 * t) 2) (by omega) (by omega) dL_law_1117 ?_
  refine lv_aload_n hx hb dL_law_1118 rfl (lv_at hl 0 rfl) ?_
  refine lv_iload hx hb dL_law_1119 (lv_at hl 4 rfl) ?_
  refine lv_iconst (v := 3) hx hb dL_law_1121 (by decide) ?_
  refine lv_iadd hx hb dL_law_1122 ?_
  refine xs_ld (j := 10 * t + 3) hc hw hX_b hX2_b (nI_add (10 * t) 3) (by omega) (by omega) dL_law_1123 ?_
  refine lv_aload_n hx hb dL_law_1124 rfl (lv_at hl 0 rfl) ?_
  refine lv_iload hx hb dL_law_1125 (lv_at hl 4 rfl) ?_
  refine lv_iconst (v := 4) hx hb dL_law_1127 (by decide) ?_
  refine lv_iadd hx hb dL_law_1128 ?_
  refine xs_ld (j := 10 * t + 4) hc hw hX_b hX2_b (nI_add (10 * t) 4) (by omega) (by omega) dL_law_1129 ?_
  refine lv_aload_n hx hb dL_law_1130 rfl (lv_at hl 3 rfl) ?_
  refine xc_Wi hc hw (c_L_card hl0 (xs (10 * t + 1)) (xs (10 * t + 2)) (xs (10 * t + 3)) (xs (10 * t + 4)) hR.K.B hR.K.B0 hR.K.C hR.K.C0) mw_548 mw_546 mw_0 mw_547 xd_L_card ⟨by decide, by decide⟩ (rfl) hl.1 (Nat.le_of_ble_eq_true rfl) dL_law_1131 ⟨by show _ ≤ 601024; omega, by show _ ≤ 7293034; omega⟩ (fun r_1131 σ_1131 H locs hq hw => ?_)
  obtain ⟨ad_1131, m_1131, σ_1131⟩ := σ_1131
  have hq_1131 := hq
  have hag_1131 : ∀ a b, b < (x_n nS nB nC nO) a → ad_1131 a b = ad a b := (sp_card hR hq).1
  replace hw : x_B D cs base ad_1131 (x_n nS nB m_1131 nO) (x_s nS nB m_1131 nO nS m_1131) σ_1131 s H locs := hw
  have hl : lv_has ls 7 [(0, .ref b), (1, .ref (ad_1131 6 0)), (2, .ref (ad_1131 7 0)), (3, .ref (ad_1131 8 0)), (4, .int (nI (10 * t)))] := by rw [hag_1131 6 0 (Nat.zero_lt_one), hag_1131 7 0 (Nat.zero_lt_one), hag_1131 8 0 (Nat.zero_lt_one)]; exact hl
  obtain ⟨_, hkp, hst⟩ := sp_card hR hq_1131
  have hRm := hR.rm.mv hkp
  refine lv_istore (lv' := [(5, .int r_1131), (0, .ref b), (1, .ref (ad_1131 6 0)), (2, .ref (ad_1131 7 0)), (3, .ref (ad_1131 8 0)), (4, .int (nI (10 * t)))]) hx hb dL_law_1134 hl (by decide) rfl (fun ls hl => ?_)
  refine lv_aload_n hx hb dL_law_1136 rfl (lv_at hl 3 rfl) ?_
  refine lv_aload_n hx hb dL_law_1137 rfl (lv_at hl 1 rfl) ?_
  refine lv_iload hx hb dL_law_1138 (lv_at hl 5 rfl) ?_
  refine lv_iconst (v := 1) hx hb dL_law_1140 (by decide) ?_
  refine lv_iadd hx hb dL_law_1141 ?_
  refine xs_ld (j := 10 * t + 1) hc hw hX_b hX2_b (nI_add (10 * t) 1) (by omega) (by omega) dL_law_1142 ?_
  refine lv_aload_n hx hb dL_law_1143 rfl (lv_at hl 1 rfl) ?_
  refine lv_iload hx hb dL_law_1144 (lv_at hl 5 rfl) ?_
  refine lv_iconst (v := 2) hx hb dL_law_1146 (by decide) ?_
  refine lv_iadd hx hb dL_law_1147 ?_
  refine xs_ld (j := 10 * t + 2) hc hw hX_b hX2_b (nI_add (10 * t) 2) (by omega) (by omega) dL_law_1148 ?_
  refine lv_aload_n hx hb dL_law_1149 rfl (lv_at hl 1 rfl) ?_
  refine lv_iload hx hb dL_law_1150 (lv_at hl 5 rfl) ?_
  refine lv_iconst (v := 3) hx hb dL_law_1152 (by decide) ?_
  refine lv_iadd hx hb dL_law_1153 ?_
  refine xs_ld (j := 10 * t + 3) hc hw hX_b hX2_b (nI_add (10 * t) 3) (by omega) (by omega) dL_law_1154 ?_
  refine lv_aload_n hx hb dL_law_1155 rfl (lv_at hl 1 rfl) ?_
  refine lv_iload hx hb dL_law_1156 (lv_at hl 5 rfl) ?_
  refine lv_iconst (v := 4) hx hb dL_law_1158 (by decide) ?_
  refine lv_iadd hx hb dL_law_1159 ?_
  refine xs_ld (j := 10 * t + 4) hc hw hX_b hX2_b (nI_add (10 * t) 4) (by omega) (by omega) dL_law_1160 ?_
  refine xc_Vi hc hw 7 0 (c_X7_card (xs (10 * t + 1)) (xs (10 * t + 2)) (xs (10 * t + 3)) (xs (10 * t + 4)) nB hRm.B hR.K.B0 nC hRm.C hR.K.C0 Nat.zero_lt_one x_hm) rfl rfl (Nat.zero_lt_one) mw_915 mw_912 mw_4 mw_913 mw_914 xd_X7_card ⟨by decide, by decide⟩ (rfl) hl.1 (Nat.le_of_ble_eq_true rfl) dL_law_1161 ⟨by show _ ≤ 601024; omega, by show _ ≤ 7293034; omega⟩ (fun r_1161 σ_1161 H locs hq hw => ?_)
  have hq_1161 := hq
  obtain ⟨e1, e2, hRn⟩ := hst _ _ hq_1161
  refine lv_istore (lv' := [(6, .int r_1161), (5, .int r_1131), (0, .ref b), (1, .ref (ad_1131 6 0)), (2, .ref (ad_1131 7 0)), (3, .ref (ad_1131 8 0)), (4, .int (nI (10 * t)))]) hx hb dL_law_1164 hl (by decide) rfl (fun ls hl => ?_)
  refine lv_aload_n hx hb dL_law_1166 rfl (lv_at hl 4 rfl) ?_
  refine xc_Vi hc hw 7 0 (c_X7_thrown Nat.zero_lt_one x_hm) rfl rfl (Nat.zero_lt_one) mw_818 mw_815 mw_4 mw_816 mw_817 xd_X7_thrown ⟨by decide, by decide⟩ (rfl) hl.1 (Nat.le_of_ble_eq_true rfl) dL_law_1167 ⟨by show _ ≤ 601024; omega, by show _ ≤ 7293034; omega⟩ (fun r_1167 σ_1167 H locs hq hw => ?_)
  obtain ⟨hσ_1167, hr_1167⟩ := hq
  rw [hσ_1167] at hw
  refine lv_iload hx hb dL_law_1170 (lv_at hl 1 rfl) ?_
  refine lv_icmp_eq (tgt := 1177) hx hb dL_law_1172 (by decide) (fun c_1172 => ?_) (fun c_1172 => ?_)
  · refine lv_iload hx hb dL_law_1177 (lv_at hl 1 rfl) ?_
    refine lv_if_ne (tgt := 1194) hx hb dL_law_1179 (by decide) (fun c_1179 => ?_) (fun c_1179 => ?_)
    · refine lv_goto (tgt := 1602) hx hb dL_law_1194 (by decide) ?_
      refine W.widen (k := cells + 40) (n := slots + 400) (by omega) (by omega) ?_
      exact cut_1602 _ _ _ _ _ _ hRn _ _ _ (lv_sub hl [2, 3, 4, 5, 6] rfl) hw
    · refine lv_aload_n hx hb dL_law_1182 rfl (lv_at hl 5 rfl) ?_
      refine lv_iconst (v := 0) hx hb dL_law_1183 (by decide) ?_
      refine xl_ld (j := 0) hc hw (Nat.zero_lt_one) rfl (by decide) dL_law_1184 ?_
      refine lv_iload hx hb dL_law_1185 (lv_at hl 0 rfl) ?_
      refine lv_i2l hx hb dL_law_1187 rfl ?_
      refine W.lcmp hx hb dL_law_1188 ?_
      refine lv_if_eq (tgt := 1194) hx hb dL_law_1189 (by decide) (fun c_1189 => ?_) (fun c_1189 => ?_)
      · refine lv_goto (tgt := 1602) hx hb dL_law_1194 (by decide) ?_
        refine W.widen (k := cells + 40) (n := slots + 400) (by omega) (by omega) ?_
        exact cut_1602 _ _ _ _ _ _ hRn _ _ _ (lv_sub hl [2, 3, 4, 5, 6] rfl) hw
      · exact absurd c_1189 (not_not_intro (by rw [e2 c_1179]; exact x_lc0 _))
  · exact absurd c_1172 (not_not_intro (hr_1167.trans e1))
set_option maxHeartbeats 4000000 in
set_option maxRecDepth 100000 in
theorem lc_cardOf {p : Program} {l : Launch} {e : Env} {s : State} {m : MethodId} {below : List Frame} {meth : Method} {c : Code} {b L : Nat} {xs : Nat → Int32} {D : va_G} {cs : Nat → ClassId} {base : Nat} {ad : Nat → Nat → Nat} {nS nB nC nO : Nat} {σ : x_St} {H : Heap} {locs : List Loc} {cells slots : Nat} {ls : Array Slot} {t : Nat} {Q : State → Prop} (hl0 : l.stackTraces = false) (hx : p.tables.exec = Jvm.exec) (hb : c.code = cL_law) (hc : CallFix p m c cL_law 7 s #[Value.ref b] Tw RL) (hX_b : va_X b L xs s s.heap) (hX2_b : b < base) (hL : L ≤ 5120) (ht : 10 * t + 10 ≤ L) (hce : cells + 40 ≤ 601024) (hsl : slots + 400 ≤ 7293034) (hR : Rl σ nS nB nC nO t) (hl : lv_has ls 7 [(0, .ref b), (1, .ref (ad 6 0)), (2, .ref (ad 7 0)), (3, .ref (ad 8 0)), (4, .int (nI (10 * t)))]) (hw : x_B D cs base ad (x_n nS nB nC nO) (x_s nS nB nC nO nS nC) σ s H locs)
    (cut_1602 : ∀ (ad' : Nat → Nat → Nat) (nS nB nC nO : Nat) (σ' : x_St), Rl σ' nS nB nC nO (t + 1) → ∀ (H : Heap) (locs : List Loc) (ls : Array Slot), lv_has ls 7 [(0, .ref b), (1, .ref (ad' 6 0)), (2, .ref (ad' 7 0)), (3, .ref (ad' 8 0)), (4, .int (nI (10 * t)))] → x_B D cs base ad' (x_n nS nB nC nO) (x_s nS nB nC nO nS nC) σ' s H locs → W p l e room_1 s m #[Value.ref b] below meth c H locs (cells + 40) (slots + 400) Q (F0 m 1602 ls [])) : W p l e room_1 s m #[Value.ref b] below meth c H locs cells slots Q (F0 m 1197 ls []) := by
  refine lv_aload_n hx hb dL_law_1197 rfl (lv_at hl 1 rfl) ?_
  refine lv_aload_n hx hb dL_law_1198 rfl (lv_at hl 0 rfl) ?_
  refine lv_iload hx hb dL_law_1199 (lv_at hl 4 rfl) ?_
  refine lv_iconst (v := 1) hx hb dL_law_1201 (by decide) ?_
  refine lv_iadd hx hb dL_law_1202 ?_
  refine xs_ld (j := 10 * t + 1) hc hw hX_b hX2_b (nI_add (10 * t) 1) (by omega) (by omega) dL_law_1203 ?_
  refine lv_aload_n hx hb dL_law_1204 rfl (lv_at hl 0 rfl) ?_
  refine lv_iload hx hb dL_law_1205 (lv_at hl 4 rfl) ?_
  refine lv_iconst (v := 2) hx hb dL_law_1207 (by decide) ?_
  refine lv_iadd hx hb dL_law_1208 ?_
  refine xs_ld (j := 10 * t + 2) hc hw hX_b hX2_b (nI_add (10 * t) 2) (by omega) (by omega) dL_law_1209 ?_
  refine lv_aload_n hx hb dL_law_1210 rfl (lv_at hl 3 rfl) ?_
  refine xc_Wi hc hw (c_L_cardOf hl0 (xs (10 * t + 1)) (xs (10 * t + 2)) hR.K.C hR.K.C0) mw_620 mw_618 mw_0 mw_619 xd_L_cardOf ⟨by decide, by decide⟩ (rfl) hl.1 (Nat.le_of_ble_eq_true rfl) dL_law_1211 ⟨by show _ ≤ 601024; omega, by show _ ≤ 7293034; omega⟩ (fun r_1211 σ_1211 H locs hq hw => ?_)
  have hq_1211 := hq
  obtain ⟨hkp, hst⟩ := sp_cardOf hR hq_1211
  have hRm := hR.rm.mv hkp
  refine lv_istore (lv' := [(5, .int r_1211), (0, .ref b), (1, .ref (ad 6 0)), (2, .ref (ad 7 0)), (3, .ref (ad 8 0)), (4, .int (nI (10 * t)))]) hx hb dL_law_1214 hl (by decide) rfl (fun ls hl => ?_)
  refine lv_aload_n hx hb dL_law_1216 rfl (lv_at hl 3 rfl) ?_
  refine lv_aload_n hx hb dL_law_1217 rfl (lv_at hl 1 rfl) ?_
  refine lv_iload hx hb dL_law_1218 (lv_at hl 5 rfl) ?_
  refine lv_iconst (v := 1) hx hb dL_law_1220 (by decide) ?_
  refine lv_iadd hx hb dL_law_1221 ?_
  refine xs_ld (j := 10 * t + 1) hc hw hX_b hX2_b (nI_add (10 * t) 1) (by omega) (by omega) dL_law_1222 ?_
  refine lv_aload_n hx hb dL_law_1223 rfl (lv_at hl 1 rfl) ?_
  refine lv_iload hx hb dL_law_1224 (lv_at hl 5 rfl) ?_
  refine lv_iconst (v := 2) hx hb dL_law_1226 (by decide) ?_
  refine lv_iadd hx hb dL_law_1227 ?_
  refine xs_ld (j := 10 * t + 2) hc hw hX_b hX2_b (nI_add (10 * t) 2) (by omega) (by omega) dL_law_1228 ?_
  refine xc_Vi hc hw 7 0 (c_X7_cardOf (xs (10 * t + 1)) (xs (10 * t + 2)) nC hRm.C hR.K.C0 hRm.on Nat.zero_lt_one x_hm) rfl rfl (Nat.zero_lt_one) mw_923 mw_920 mw_4 mw_921 mw_922 xd_X7_cardOf ⟨by decide, by decide⟩ (rfl) hl.1 (Nat.le_of_ble_eq_true rfl) dL_law_1229 ⟨by show _ ≤ 601024; omega, by show _ ≤ 7293034; omega⟩ (fun r_1229 σ_1229 H locs hq hw => ?_)
  have hq_1229 := hq
  obtain ⟨e1, e2, hRn⟩ := hst _ _ hq_1229
  refine lv_istore (lv' := [(6, .int r_1229), (5, .int r_1211), (0, .ref b), (1, .ref (ad 6 0)), (2, .ref (ad 7 0)), (3, .ref (ad 8 0)), (4, .int (nI (10 * t)))]) hx hb dL_law_1232 hl (by decide) rfl (fun ls hl => ?_)
  refine lv_aload_n hx hb dL_law_1234 rfl (lv_at hl 4 rfl) ?_
  refine xc_Vi hc hw 7 0 (c_X7_thrown Nat.zero_lt_one x_hm) rfl rfl (Nat.zero_lt_one) mw_818 mw_815 mw_4 mw_816 mw_817 xd_X7_thrown ⟨by decide, by decide⟩ (rfl) hl.1 (Nat.le_of_ble_eq_true rfl) dL_law_1235 ⟨by show _ ≤ 601024; omega, by show _ ≤ 7293034; omega⟩ (fun r_1235 σ_1235 H locs hq hw => ?_)
  obtain ⟨hσ_1235, hr_1235⟩ := hq
  rw [hσ_1235] at hw
  refine lv_iload hx hb dL_law_1238 (lv_at hl 1 rfl) ?_
  refine lv_icmp_eq (tgt := 1245) hx hb dL_law_1240 (by decide) (fun c_1240 => ?_) (fun c_1240 => ?_)
  · refine lv_iload hx hb dL_law_1245 (lv_at hl 1 rfl) ?_
    refine lv_if_ne (tgt := 1262) hx hb dL_law_1247 (by decide) (fun c_1247 => ?_) (fun c_1247 => ?_)
    · refine lv_goto (tgt := 1602) hx hb dL_law_1262 (by decide) ?_
      refine W.widen (k := cells + 40) (n := slots + 400) (by omega) (by omega) ?_
      exact cut_1602 _ _ _ _ _ _ hRn _ _ _ (lv_sub hl [2, 3, 4, 5, 6] rfl) hw
    · refine lv_aload_n hx hb dL_law_1250 rfl (lv_at hl 5 rfl) ?_
      refine lv_iconst (v := 0) hx hb dL_law_1251 (by decide) ?_
      refine xl_ld (j := 0) hc hw (Nat.zero_lt_one) rfl (by decide) dL_law_1252 ?_
      refine lv_iload hx hb dL_law_1253 (lv_at hl 0 rfl) ?_
      refine lv_i2l hx hb dL_law_1255 rfl ?_
      refine W.lcmp hx hb dL_law_1256 ?_
      refine lv_if_eq (tgt := 1262) hx hb dL_law_1257 (by decide) (fun c_1257 => ?_) (fun c_1257 => ?_)
      · refine lv_goto (tgt := 1602) hx hb dL_law_1262 (by decide) ?_
        refine W.widen (k := cells + 40) (n := slots + 400) (by omega) (by omega) ?_
        exact cut_1602 _ _ _ _ _ _ hRn _ _ _ (lv_sub hl [2, 3, 4, 5, 6] rfl) hw
      · exact absurd c_1257 (not_not_intro (by rw [e2 c_1247]; exact x_lc0 _))
  · exact absurd c_1240 (not_not_intro (hr_1235.trans e1))
set_option maxHeartbeats 4000000 in
set_option maxRecDepth 100000 in
theorem lc_onCard {p : Program} {l : Launch} {e : Env} {s : State} {m : MethodId} {below : List Frame} {meth : Method} {c : Code} {b L : Nat} {xs : Nat → Int32} {D : va_G} {cs : Nat → ClassId} {base : Nat} {ad : Nat → Nat → Nat} {nS nB nC nO : Nat} {σ : x_St} {H : Heap} {locs : List Loc} {cells slots : Nat} {ls : Array Slot} {t : Nat} {Q : State → Prop} (hl0 : l.stackTraces = false) (hx : p.tables.exec = Jvm.exec) (hb : c.code = cL_law) (hc : CallFix p m c cL_law 7 s #[Value.ref b] Tw RL) (hX_b : va_X b L xs s s.heap) (hX2_b : b < base) (hL : L ≤ 5120) (ht : 10 * t + 10 ≤ L) (hce : cells + 40 ≤ 601024) (hsl : slots + 400 ≤ 7293034) (hR : Rl σ nS nB nC nO t) (hl : lv_has ls 7 [(0, .ref b), (1, .ref (ad 6 0)), (2, .ref (ad 7 0)), (3, .ref (ad 8 0)), (4, .int (nI (10 * t)))]) (hw : x_B D cs base ad (x_n nS nB nC nO) (x_s nS nB nC nO nS nC) σ s H locs)
    (cut_1602 : ∀ (ad' : Nat → Nat → Nat) (nS nB nC nO : Nat) (σ' : x_St), Rl σ' nS nB nC nO (t + 1) → ∀ (H : Heap) (locs : List Loc) (ls : Array Slot), lv_has ls 7 [(0, .ref b), (1, .ref (ad' 6 0)), (2, .ref (ad' 7 0)), (3, .ref (ad' 8 0)), (4, .int (nI (10 * t)))] → x_B D cs base ad' (x_n nS nB nC nO) (x_s nS nB nC nO nS nC) σ' s H locs → W p l e room_1 s m #[Value.ref b] below meth c H locs (cells + 40) (slots + 400) Q (F0 m 1602 ls [])) : W p l e room_1 s m #[Value.ref b] below meth c H locs cells slots Q (F0 m 1265 ls []) := by
  refine lv_aload_n hx hb dL_law_1265 rfl (lv_at hl 1 rfl) ?_
  refine lv_aload_n hx hb dL_law_1266 rfl (lv_at hl 0 rfl) ?_
  refine lv_iload hx hb dL_law_1267 (lv_at hl 4 rfl) ?_
  refine lv_iconst (v := 1) hx hb dL_law_1269 (by decide) ?_
  refine lv_iadd hx hb dL_law_1270 ?_
  refine xs_ld (j := 10 * t + 1) hc hw hX_b hX2_b (nI_add (10 * t) 1) (by omega) (by omega) dL_law_1271 ?_
  refine lv_aload_n hx hb dL_law_1272 rfl (lv_at hl 0 rfl) ?_
  refine lv_iload hx hb dL_law_1273 (lv_at hl 4 rfl) ?_
  refine lv_iconst (v := 2) hx hb dL_law_1275 (by decide) ?_
  refine lv_iadd hx hb dL_law_1276 ?_
  refine xs_ld (j := 10 * t + 2) hc hw hX_b hX2_b (nI_add (10 * t) 2) (by omega) (by omega) dL_law_1277 ?_
  refine lv_aload_n hx hb dL_law_1278 rfl (lv_at hl 3 rfl) ?_
  refine xc_Wi hc hw (c_L_onCard hl0 (xs (10 * t + 1)) (xs (10 * t + 2)) hR.K.C hR.K.C0) mw_633 mw_631 mw_0 mw_632 xd_L_onCard ⟨by decide, by decide⟩ (rfl) hl.1 (Nat.le_of_ble_eq_true rfl) dL_law_1279 ⟨by show _ ≤ 601024; omega, by show _ ≤ 7293034; omega⟩ (fun r_1279 σ_1279 H locs hq hw => ?_)
  have hq_1279 := hq
  obtain ⟨hkp, hst⟩ := sp_onCard hR hq_1279
  have hRm := hR.rm.mv hkp
  refine lv_istore (lv' := [(5, .int r_1279), (0, .ref b), (1, .ref (ad 6 0)), (2, .ref (ad 7 0)), (3, .ref (ad 8 0)), (4, .int (nI (10 * t)))]) hx hb dL_law_1282 hl (by decide) rfl (fun ls hl => ?_)
  refine lv_aload_n hx hb dL_law_1284 rfl (lv_at hl 3 rfl) ?_
  refine lv_aload_n hx hb dL_law_1285 rfl (lv_at hl 1 rfl) ?_
  refine lv_iload hx hb dL_law_1286 (lv_at hl 5 rfl) ?_
  refine lv_iconst (v := 1) hx hb dL_law_1288 (by decide) ?_
  refine lv_iadd hx hb dL_law_1289 ?_
  refine xs_ld (j := 10 * t + 1) hc hw hX_b hX2_b (nI_add (10 * t) 1) (by omega) (by omega) dL_law_1290 ?_
  refine lv_aload_n hx hb dL_law_1291 rfl (lv_at hl 1 rfl) ?_
  refine lv_iload hx hb dL_law_1292 (lv_at hl 5 rfl) ?_
  refine lv_iconst (v := 2) hx hb dL_law_1294 (by decide) ?_
  refine lv_iadd hx hb dL_law_1295 ?_
  refine xs_ld (j := 10 * t + 2) hc hw hX_b hX2_b (nI_add (10 * t) 2) (by omega) (by omega) dL_law_1296 ?_
  refine xc_Vi hc hw 7 0 (c_X7_onCard (xs (10 * t + 1)) (xs (10 * t + 2)) nC hRm.C hR.K.C0 Nat.zero_lt_one x_hm) rfl rfl (Nat.zero_lt_one) mw_931 mw_928 mw_4 mw_929 mw_930 xd_X7_onCard ⟨by decide, by decide⟩ (rfl) hl.1 (Nat.le_of_ble_eq_true rfl) dL_law_1297 ⟨by show _ ≤ 601024; omega, by show _ ≤ 7293034; omega⟩ (fun r_1297 σ_1297 H locs hq hw => ?_)
  have hq_1297 := hq
  obtain ⟨e1, e2, hRn⟩ := hst _ _ hq_1297
  refine lv_istore (lv' := [(6, .int r_1297), (5, .int r_1279), (0, .ref b), (1, .ref (ad 6 0)), (2, .ref (ad 7 0)), (3, .ref (ad 8 0)), (4, .int (nI (10 * t)))]) hx hb dL_law_1300 hl (by decide) rfl (fun ls hl => ?_)
  refine lv_aload_n hx hb dL_law_1302 rfl (lv_at hl 4 rfl) ?_
  refine xc_Vi hc hw 7 0 (c_X7_thrown Nat.zero_lt_one x_hm) rfl rfl (Nat.zero_lt_one) mw_818 mw_815 mw_4 mw_816 mw_817 xd_X7_thrown ⟨by decide, by decide⟩ (rfl) hl.1 (Nat.le_of_ble_eq_true rfl) dL_law_1303 ⟨by show _ ≤ 601024; omega, by show _ ≤ 7293034; omega⟩ (fun r_1303 σ_1303 H locs hq hw => ?_)
  obtain ⟨hσ_1303, hr_1303⟩ := hq
  rw [hσ_1303] at hw
  refine lv_iload hx hb dL_law_1306 (lv_at hl 1 rfl) ?_
  refine lv_icmp_eq (tgt := 1313) hx hb dL_law_1308 (by decide) (fun c_1308 => ?_) (fun c_1308 => ?_)
  · refine lv_iload hx hb dL_law_1313 (lv_at hl 1 rfl) ?_
    refine lv_if_ne (tgt := 1330) hx hb dL_law_1315 (by decide) (fun c_1315 => ?_) (fun c_1315 => ?_)
    · refine lv_goto (tgt := 1602) hx hb dL_law_1330 (by decide) ?_
      refine W.widen (k := cells + 40) (n := slots + 400) (by omega) (by omega) ?_
      exact cut_1602 _ _ _ _ _ _ hRn _ _ _ (lv_sub hl [2, 3, 4, 5, 6] rfl) hw
    · refine lv_aload_n hx hb dL_law_1318 rfl (lv_at hl 5 rfl) ?_
      refine lv_iconst (v := 0) hx hb dL_law_1319 (by decide) ?_
      refine xl_ld (j := 0) hc hw (Nat.zero_lt_one) rfl (by decide) dL_law_1320 ?_
      refine lv_iload hx hb dL_law_1321 (lv_at hl 0 rfl) ?_
      refine lv_i2l hx hb dL_law_1323 rfl ?_
      refine W.lcmp hx hb dL_law_1324 ?_
      refine lv_if_eq (tgt := 1330) hx hb dL_law_1325 (by decide) (fun c_1325 => ?_) (fun c_1325 => ?_)
      · refine lv_goto (tgt := 1602) hx hb dL_law_1330 (by decide) ?_
        refine W.widen (k := cells + 40) (n := slots + 400) (by omega) (by omega) ?_
        exact cut_1602 _ _ _ _ _ _ hRn _ _ _ (lv_sub hl [2, 3, 4, 5, 6] rfl) hw
      · exact absurd c_1325 (not_not_intro (by rw [e2 c_1315]; exact x_lc0 _))
  · exact absurd c_1308 (not_not_intro (hr_1303.trans e1))
set_option maxHeartbeats 4000000 in
set_option maxRecDepth 100000 in
theorem lc_order {p : Program} {l : Launch} {e : Env} {s : State} {m : MethodId} {below : List Frame} {meth : Method} {c : Code} {b L : Nat} {xs : Nat → Int32} {D : va_G} {cs : Nat → ClassId} {base : Nat} {ad : Nat → Nat → Nat} {nS nB nC nO : Nat} {σ : x_St} {H : Heap} {locs : List Loc} {cells slots : Nat} {ls : Array Slot} {t : Nat} {Q : State → Prop} (hl0 : l.stackTraces = false) (hx : p.tables.exec = Jvm.exec) (hb : c.code = cL_law) (hc : CallFix p m c cL_law 7 s #[Value.ref b] Tw RL) (hX_b : va_X b L xs s s.heap) (hX2_b : b < base) (hL : L ≤ 5120) (ht : 10 * t + 10 ≤ L) (hce : cells + 40 ≤ 601024) (hsl : slots + 400 ≤ 7293034) (hR : Rl σ nS nB nC nO t) (hl : lv_has ls 7 [(0, .ref b), (1, .ref (ad 6 0)), (2, .ref (ad 7 0)), (3, .ref (ad 8 0)), (4, .int (nI (10 * t)))]) (hw : x_B D cs base ad (x_n nS nB nC nO) (x_s nS nB nC nO nS nC) σ s H locs)
    (cut_1602 : ∀ (ad' : Nat → Nat → Nat) (nS nB nC nO : Nat) (σ' : x_St), Rl σ' nS nB nC nO (t + 1) → ∀ (H : Heap) (locs : List Loc) (ls : Array Slot), lv_has ls 7 [(0, .ref b), (1, .ref (ad' 6 0)), (2, .ref (ad' 7 0)), (3, .ref (ad' 8 0)), (4, .int (nI (10 * t)))] → x_B D cs base ad' (x_n nS nB nC nO) (x_s nS nB nC nO nS nC) σ' s H locs → W p l e room_1 s m #[Value.ref b] below meth c H locs (cells + 40) (slots + 400) Q (F0 m 1602 ls [])) : W p l e room_1 s m #[Value.ref b] below meth c H locs cells slots Q (F0 m 1333 ls []) := by
  refine lv_aload_n hx hb dL_law_1333 rfl (lv_at hl 1 rfl) ?_
  refine lv_aload_n hx hb dL_law_1334 rfl (lv_at hl 0 rfl) ?_
  refine lv_iload hx hb dL_law_1335 (lv_at hl 4 rfl) ?_
  refine lv_iconst (v := 1) hx hb dL_law_1337 (by decide) ?_
  refine lv_iadd hx hb dL_law_1338 ?_
  refine xs_ld (j := 10 * t + 1) hc hw hX_b hX2_b (nI_add (10 * t) 1) (by omega) (by omega) dL_law_1339 ?_
  refine lv_aload_n hx hb dL_law_1340 rfl (lv_at hl 0 rfl) ?_
  refine lv_iload hx hb dL_law_1341 (lv_at hl 4 rfl) ?_
  refine lv_iconst (v := 2) hx hb dL_law_1343 (by decide) ?_
  refine lv_iadd hx hb dL_law_1344 ?_
  refine xs_ld (j := 10 * t + 2) hc hw hX_b hX2_b (nI_add (10 * t) 2) (by omega) (by omega) dL_law_1345 ?_
  refine lv_aload_n hx hb dL_law_1346 rfl (lv_at hl 0 rfl) ?_
  refine lv_iload hx hb dL_law_1347 (lv_at hl 4 rfl) ?_
  refine lv_iconst (v := 3) hx hb dL_law_1349 (by decide) ?_
  refine lv_iadd hx hb dL_law_1350 ?_
  refine xs_ld (j := 10 * t + 3) hc hw hX_b hX2_b (nI_add (10 * t) 3) (by omega) (by omega) dL_law_1351 ?_
  refine lv_aload_n hx hb dL_law_1352 rfl (lv_at hl 0 rfl) ?_
  refine lv_iload hx hb dL_law_1353 (lv_at hl 4 rfl) ?_
  refine lv_iconst (v := 4) hx hb dL_law_1355 (by decide) ?_
  refine lv_iadd hx hb dL_law_1356 ?_
  refine xs_ld (j := 10 * t + 4) hc hw hX_b hX2_b (nI_add (10 * t) 4) (by omega) (by omega) dL_law_1357 ?_
  refine lv_aload_n hx hb dL_law_1358 rfl (lv_at hl 0 rfl) ?_
  refine lv_iload hx hb dL_law_1359 (lv_at hl 4 rfl) ?_
  refine lv_iconst (v := 5) hx hb dL_law_1361 (by decide) ?_
  refine lv_iadd hx hb dL_law_1362 ?_
  refine xs_ld (j := 10 * t + 5) hc hw hX_b hX2_b (nI_add (10 * t) 5) (by omega) (by omega) dL_law_1363 ?_
  refine lv_aload_n hx hb dL_law_1364 rfl (lv_at hl 0 rfl) ?_
  refine lv_iload hx hb dL_law_1365 (lv_at hl 4 rfl) ?_
  refine lv_bipush (v := 6) hx hb dL_law_1367 (by decide) ?_
  refine lv_iadd hx hb dL_law_1369 ?_
  refine xs_ld (j := 10 * t + 6) hc hw hX_b hX2_b (nI_add (10 * t) 6) (by omega) (by omega) dL_law_1370 ?_
  refine lv_aload_n hx hb dL_law_1371 rfl (lv_at hl 0 rfl) ?_
  refine lv_iload hx hb dL_law_1372 (lv_at hl 4 rfl) ?_
  refine lv_bipush (v := 7) hx hb dL_law_1374 (by decide) ?_
  refine lv_iadd hx hb dL_law_1376 ?_
  refine xs_ld (j := 10 * t + 7) hc hw hX_b hX2_b (nI_add (10 * t) 7) (by omega) (by omega) dL_law_1377 ?_
  refine xc_Vi hc hw 6 0 (c_X6_order (xs (10 * t + 1)) (xs (10 * t + 2)) (xs (10 * t + 3)) (xs (10 * t + 4)) (xs (10 * t + 5)) (xs (10 * t + 6)) (xs (10 * t + 7)) hR.K.O hR.K.O0 hR.O.b) rfl rfl (Nat.zero_lt_one) mw_187 mw_184 mw_1 mw_185 mw_186 xd_X6_order ⟨by decide, by decide⟩ (rfl) hl.1 (Nat.le_of_ble_eq_true rfl) dL_law_1378 ⟨by show _ ≤ 601024; omega, by show _ ≤ 7293034; omega⟩ (fun r_1378 σ_1378 H locs hq hw => ?_)
  obtain ⟨ad_1378, m_1378, σ_1378⟩ := σ_1378
  have hq_1378 := hq
  have hag_1378 : ∀ a b, b < (x_n nS nB nC nO) a → ad_1378 a b = ad a b := hq.1
  replace hw : x_B D cs base ad_1378 (x_n nS nB nC m_1378) (x_s nS nB nC m_1378 nS nC) σ_1378 s H locs := hw
  have hl : lv_has ls 7 [(0, .ref b), (1, .ref (ad_1378 6 0)), (2, .ref (ad_1378 7 0)), (3, .ref (ad_1378 8 0)), (4, .int (nI (10 * t)))] := by rw [hag_1378 6 0 (Nat.zero_lt_one), hag_1378 7 0 (Nat.zero_lt_one), hag_1378 8 0 (Nat.zero_lt_one)]; exact hl
  obtain ⟨hkp, hst⟩ := sp_order hR hq_1378
  have hRm := hR.rm.mv hkp
  refine lv_aload_n hx hb dL_law_1381 rfl (lv_at hl 2 rfl) ?_
  refine lv_aload_n hx hb dL_law_1382 rfl (lv_at hl 0 rfl) ?_
  refine lv_iload hx hb dL_law_1383 (lv_at hl 4 rfl) ?_
  refine lv_iconst (v := 1) hx hb dL_law_1385 (by decide) ?_
  refine lv_iadd hx hb dL_law_1386 ?_
  refine xs_ld (j := 10 * t + 1) hc hw hX_b hX2_b (nI_add (10 * t) 1) (by omega) (by omega) dL_law_1387 ?_
  refine lv_aload_n hx hb dL_law_1388 rfl (lv_at hl 0 rfl) ?_
  refine lv_iload hx hb dL_law_1389 (lv_at hl 4 rfl) ?_
  refine lv_iconst (v := 2) hx hb dL_law_1391 (by decide) ?_
  refine lv_iadd hx hb dL_law_1392 ?_
  refine xs_ld (j := 10 * t + 2) hc hw hX_b hX2_b (nI_add (10 * t) 2) (by omega) (by omega) dL_law_1393 ?_
  refine lv_aload_n hx hb dL_law_1394 rfl (lv_at hl 0 rfl) ?_
  refine lv_iload hx hb dL_law_1395 (lv_at hl 4 rfl) ?_
  refine lv_iconst (v := 3) hx hb dL_law_1397 (by decide) ?_
  refine lv_iadd hx hb dL_law_1398 ?_
  refine xs_ld (j := 10 * t + 3) hc hw hX_b hX2_b (nI_add (10 * t) 3) (by omega) (by omega) dL_law_1399 ?_
  refine lv_aload_n hx hb dL_law_1400 rfl (lv_at hl 0 rfl) ?_
  refine lv_iload hx hb dL_law_1401 (lv_at hl 4 rfl) ?_
  refine lv_iconst (v := 4) hx hb dL_law_1403 (by decide) ?_
  refine lv_iadd hx hb dL_law_1404 ?_
  refine xs_ld (j := 10 * t + 4) hc hw hX_b hX2_b (nI_add (10 * t) 4) (by omega) (by omega) dL_law_1405 ?_
  refine lv_aload_n hx hb dL_law_1406 rfl (lv_at hl 0 rfl) ?_
  refine lv_iload hx hb dL_law_1407 (lv_at hl 4 rfl) ?_
  refine lv_iconst (v := 5) hx hb dL_law_1409 (by decide) ?_
  refine lv_iadd hx hb dL_law_1410 ?_
  refine xs_ld (j := 10 * t + 5) hc hw hX_b hX2_b (nI_add (10 * t) 5) (by omega) (by omega) dL_law_1411 ?_
  refine lv_aload_n hx hb dL_law_1412 rfl (lv_at hl 0 rfl) ?_
  refine lv_iload hx hb dL_law_1413 (lv_at hl 4 rfl) ?_
  refine lv_bipush (v := 6) hx hb dL_law_1415 (by decide) ?_
  refine lv_iadd hx hb dL_law_1417 ?_
  refine xs_ld (j := 10 * t + 6) hc hw hX_b hX2_b (nI_add (10 * t) 6) (by omega) (by omega) dL_law_1418 ?_
  refine lv_aload_n hx hb dL_law_1419 rfl (lv_at hl 0 rfl) ?_
  refine lv_iload hx hb dL_law_1420 (lv_at hl 4 rfl) ?_
  refine lv_bipush (v := 7) hx hb dL_law_1422 (by decide) ?_
  refine lv_iadd hx hb dL_law_1424 ?_
  refine xs_ld (j := 10 * t + 7) hc hw hX_b hX2_b (nI_add (10 * t) 7) (by omega) (by omega) dL_law_1425 ?_
  refine xc_Vi hc hw 7 0 (c_X7_order (xs (10 * t + 1)) (xs (10 * t + 2)) (xs (10 * t + 3)) (xs (10 * t + 4)) (xs (10 * t + 5)) (xs (10 * t + 6)) (xs (10 * t + 7)) nO hRm.O hR.K.O0 Nat.zero_lt_one x_hm) rfl rfl (Nat.zero_lt_one) mw_935 mw_932 mw_4 mw_933 mw_934 xd_X7_order ⟨by decide, by decide⟩ (rfl) hl.1 (Nat.le_of_ble_eq_true rfl) dL_law_1426 ⟨by show _ ≤ 601024; omega, by show _ ≤ 7293034; omega⟩ (fun r_1426 σ_1426 H locs hq hw => ?_)
  have hq_1426 := hq
  obtain ⟨e1, hRn⟩ := hst _ _ hq_1426
  refine lv_icmp_eq (tgt := 1602) hx hb dL_law_1429 (by decide) (fun c_1429 => ?_) (fun c_1429 => ?_)
  · refine W.widen (k := cells + 40) (n := slots + 400) (by omega) (by omega) ?_
    exact cut_1602 _ _ _ _ _ _ hRn _ _ _ (lv_sub hl [0, 1, 2, 3, 4] rfl) hw
  · exact absurd c_1429 (not_not_intro e1)
set_option maxHeartbeats 4000000 in
set_option maxRecDepth 100000 in
theorem lc_send {p : Program} {l : Launch} {e : Env} {s : State} {m : MethodId} {below : List Frame} {meth : Method} {c : Code} {b L : Nat} {xs : Nat → Int32} {D : va_G} {cs : Nat → ClassId} {base : Nat} {ad : Nat → Nat → Nat} {nS nB nC nO : Nat} {σ : x_St} {H : Heap} {locs : List Loc} {cells slots : Nat} {ls : Array Slot} {t : Nat} {Q : State → Prop} (hl0 : l.stackTraces = false) (hx : p.tables.exec = Jvm.exec) (hb : c.code = cL_law) (hc : CallFix p m c cL_law 7 s #[Value.ref b] Tw RL) (hX_b : va_X b L xs s s.heap) (hX2_b : b < base) (hL : L ≤ 5120) (ht : 10 * t + 10 ≤ L) (hce : cells + 40 ≤ 601024) (hsl : slots + 400 ≤ 7293034) (hR : Rl σ nS nB nC nO t) (hl : lv_has ls 7 [(0, .ref b), (1, .ref (ad 6 0)), (2, .ref (ad 7 0)), (3, .ref (ad 8 0)), (4, .int (nI (10 * t)))]) (hw : x_B D cs base ad (x_n nS nB nC nO) (x_s nS nB nC nO nS nC) σ s H locs)
    (cut_1602 : ∀ (ad' : Nat → Nat → Nat) (nS nB nC nO : Nat) (σ' : x_St), Rl σ' nS nB nC nO (t + 1) → ∀ (H : Heap) (locs : List Loc) (ls : Array Slot), lv_has ls 7 [(0, .ref b), (1, .ref (ad' 6 0)), (2, .ref (ad' 7 0)), (3, .ref (ad' 8 0)), (4, .int (nI (10 * t)))] → x_B D cs base ad' (x_n nS nB nC nO) (x_s nS nB nC nO nS nC) σ' s H locs → W p l e room_1 s m #[Value.ref b] below meth c H locs (cells + 40) (slots + 400) Q (F0 m 1602 ls [])) : W p l e room_1 s m #[Value.ref b] below meth c H locs cells slots Q (F0 m 1434 ls []) := by
  refine lv_aload_n hx hb dL_law_1434 rfl (lv_at hl 1 rfl) ?_
  refine lv_aload_n hx hb dL_law_1435 rfl (lv_at hl 0 rfl) ?_
  refine lv_iload hx hb dL_law_1436 (lv_at hl 4 rfl) ?_
  refine lv_iconst (v := 1) hx hb dL_law_1438 (by decide) ?_
  refine lv_iadd hx hb dL_law_1439 ?_
  refine xs_ld (j := 10 * t + 1) hc hw hX_b hX2_b (nI_add (10 * t) 1) (by omega) (by omega) dL_law_1440 ?_
  refine lv_aload_n hx hb dL_law_1441 rfl (lv_at hl 3 rfl) ?_
  refine xc_Wi hc hw (c_L_send hl0 (xs (10 * t + 1)) hR.K.C hR.K.C0 hR.K.O hR.K.O0 hR.O.b hR.cd) mw_641 mw_639 mw_0 mw_640 xd_L_send ⟨by decide, by decide⟩ (rfl) hl.1 (Nat.le_of_ble_eq_true rfl) dL_law_1442 ⟨by show _ ≤ 601024; omega, by show _ ≤ 7293034; omega⟩ (fun r_1442 σ_1442 H locs hq hw => ?_)
  have hq_1442 := hq
  obtain ⟨hkp, hst⟩ := sp_send hR hq_1442
  have hRm := hR.rm.mv hkp
  refine lv_istore (lv' := [(5, .int r_1442), (0, .ref b), (1, .ref (ad 6 0)), (2, .ref (ad 7 0)), (3, .ref (ad 8 0)), (4, .int (nI (10 * t)))]) hx hb dL_law_1445 hl (by decide) rfl (fun ls hl => ?_)
  refine lv_aload_n hx hb dL_law_1447 rfl (lv_at hl 3 rfl) ?_
  refine lv_aload_n hx hb dL_law_1448 rfl (lv_at hl 1 rfl) ?_
  refine lv_iload hx hb dL_law_1449 (lv_at hl 5 rfl) ?_
  refine lv_iconst (v := 1) hx hb dL_law_1451 (by decide) ?_
  refine lv_iadd hx hb dL_law_1452 ?_
  refine xs_ld (j := 10 * t + 1) hc hw hX_b hX2_b (nI_add (10 * t) 1) (by omega) (by omega) dL_law_1453 ?_
  refine xc_Vi hc hw 7 0 (c_X7_send (xs (10 * t + 1)) nC hRm.C hR.K.C0 nO hRm.O hR.K.O0 hRm.mn Nat.zero_lt_one x_hm) rfl rfl (Nat.zero_lt_one) mw_939 mw_936 mw_4 mw_937 mw_938 xd_X7_send ⟨by decide, by decide⟩ (rfl) hl.1 (Nat.le_of_ble_eq_true rfl) dL_law_1454 ⟨by show _ ≤ 601024; omega, by show _ ≤ 7293034; omega⟩ (fun r_1454 σ_1454 H locs hq hw => ?_)
  have hq_1454 := hq
  obtain ⟨e1, e2, hRn⟩ := hst _ _ hq_1454
  refine lv_istore (lv' := [(6, .int r_1454), (5, .int r_1442), (0, .ref b), (1, .ref (ad 6 0)), (2, .ref (ad 7 0)), (3, .ref (ad 8 0)), (4, .int (nI (10 * t)))]) hx hb dL_law_1457 hl (by decide) rfl (fun ls hl => ?_)
  refine lv_aload_n hx hb dL_law_1459 rfl (lv_at hl 4 rfl) ?_
  refine xc_Vi hc hw 7 0 (c_X7_thrown Nat.zero_lt_one x_hm) rfl rfl (Nat.zero_lt_one) mw_818 mw_815 mw_4 mw_816 mw_817 xd_X7_thrown ⟨by decide, by decide⟩ (rfl) hl.1 (Nat.le_of_ble_eq_true rfl) dL_law_1460 ⟨by show _ ≤ 601024; omega, by show _ ≤ 7293034; omega⟩ (fun r_1460 σ_1460 H locs hq hw => ?_)
  obtain ⟨hσ_1460, hr_1460⟩ := hq
  rw [hσ_1460] at hw
  refine lv_iload hx hb dL_law_1463 (lv_at hl 1 rfl) ?_
  refine lv_icmp_eq (tgt := 1470) hx hb dL_law_1465 (by decide) (fun c_1465 => ?_) (fun c_1465 => ?_)
  · refine lv_iload hx hb dL_law_1470 (lv_at hl 1 rfl) ?_
    refine lv_if_ne (tgt := 1487) hx hb dL_law_1472 (by decide) (fun c_1472 => ?_) (fun c_1472 => ?_)
    · refine lv_goto (tgt := 1602) hx hb dL_law_1487 (by decide) ?_
      refine W.widen (k := cells + 40) (n := slots + 400) (by omega) (by omega) ?_
      exact cut_1602 _ _ _ _ _ _ hRn _ _ _ (lv_sub hl [2, 3, 4, 5, 6] rfl) hw
    · refine lv_aload_n hx hb dL_law_1475 rfl (lv_at hl 5 rfl) ?_
      refine lv_iconst (v := 0) hx hb dL_law_1476 (by decide) ?_
      refine xl_ld (j := 0) hc hw (Nat.zero_lt_one) rfl (by decide) dL_law_1477 ?_
      refine lv_iload hx hb dL_law_1478 (lv_at hl 0 rfl) ?_
      refine lv_i2l hx hb dL_law_1480 rfl ?_
      refine W.lcmp hx hb dL_law_1481 ?_
      refine lv_if_eq (tgt := 1487) hx hb dL_law_1482 (by decide) (fun c_1482 => ?_) (fun c_1482 => ?_)
      · refine lv_goto (tgt := 1602) hx hb dL_law_1487 (by decide) ?_
        refine W.widen (k := cells + 40) (n := slots + 400) (by omega) (by omega) ?_
        exact cut_1602 _ _ _ _ _ _ hRn _ _ _ (lv_sub hl [2, 3, 4, 5, 6] rfl) hw
      · exact absurd c_1482 (not_not_intro (by rw [e2 c_1472]; exact x_lc0 _))
  · exact absurd c_1465 (not_not_intro (hr_1460.trans e1))
set_option maxHeartbeats 4000000 in
set_option maxRecDepth 100000 in
theorem lc_sent {p : Program} {l : Launch} {e : Env} {s : State} {m : MethodId} {below : List Frame} {meth : Method} {c : Code} {b L : Nat} {xs : Nat → Int32} {D : va_G} {cs : Nat → ClassId} {base : Nat} {ad : Nat → Nat → Nat} {nS nB nC nO : Nat} {σ : x_St} {H : Heap} {locs : List Loc} {cells slots : Nat} {ls : Array Slot} {t : Nat} {Q : State → Prop} (hl0 : l.stackTraces = false) (hx : p.tables.exec = Jvm.exec) (hb : c.code = cL_law) (hc : CallFix p m c cL_law 7 s #[Value.ref b] Tw RL) (hX_b : va_X b L xs s s.heap) (hX2_b : b < base) (hL : L ≤ 5120) (ht : 10 * t + 10 ≤ L) (hce : cells + 40 ≤ 601024) (hsl : slots + 400 ≤ 7293034) (hR : Rl σ nS nB nC nO t) (hl : lv_has ls 7 [(0, .ref b), (1, .ref (ad 6 0)), (2, .ref (ad 7 0)), (3, .ref (ad 8 0)), (4, .int (nI (10 * t)))]) (hw : x_B D cs base ad (x_n nS nB nC nO) (x_s nS nB nC nO nS nC) σ s H locs)
    (cut_1602 : ∀ (ad' : Nat → Nat → Nat) (nS nB nC nO : Nat) (σ' : x_St), Rl σ' nS nB nC nO (t + 1) → ∀ (H : Heap) (locs : List Loc) (ls : Array Slot), lv_has ls 7 [(0, .ref b), (1, .ref (ad' 6 0)), (2, .ref (ad' 7 0)), (3, .ref (ad' 8 0)), (4, .int (nI (10 * t)))] → x_B D cs base ad' (x_n nS nB nC nO) (x_s nS nB nC nO nS nC) σ' s H locs → W p l e room_1 s m #[Value.ref b] below meth c H locs (cells + 40) (slots + 400) Q (F0 m 1602 ls [])) : W p l e room_1 s m #[Value.ref b] below meth c H locs cells slots Q (F0 m 1490 ls []) := by
  refine lv_aload_n hx hb dL_law_1490 rfl (lv_at hl 1 rfl) ?_
  refine lv_aload_n hx hb dL_law_1491 rfl (lv_at hl 0 rfl) ?_
  refine lv_iload hx hb dL_law_1492 (lv_at hl 4 rfl) ?_
  refine lv_iconst (v := 1) hx hb dL_law_1494 (by decide) ?_
  refine lv_iadd hx hb dL_law_1495 ?_
  refine xs_ld (j := 10 * t + 1) hc hw hX_b hX2_b (nI_add (10 * t) 1) (by omega) (by omega) dL_law_1496 ?_
  refine lv_aload_n hx hb dL_law_1497 rfl (lv_at hl 3 rfl) ?_
  refine xc_Wi hc hw (c_L_sent hl0 (xs (10 * t + 1)) hR.K.O hR.K.O0) mw_666 mw_664 mw_0 mw_665 xd_L_sent ⟨by decide, by decide⟩ (rfl) hl.1 (Nat.le_of_ble_eq_true rfl) dL_law_1498 ⟨by show _ ≤ 601024; omega, by show _ ≤ 7293034; omega⟩ (fun r_1498 σ_1498 H locs hq hw => ?_)
  have hq_1498 := hq
  obtain ⟨hkp, hst⟩ := sp_sent hR hq_1498
  have hRm := hR.rm.mv hkp
  refine lv_istore (lv' := [(5, .int r_1498), (0, .ref b), (1, .ref (ad 6 0)), (2, .ref (ad 7 0)), (3, .ref (ad 8 0)), (4, .int (nI (10 * t)))]) hx hb dL_law_1501 hl (by decide) rfl (fun ls hl => ?_)
  refine lv_aload_n hx hb dL_law_1503 rfl (lv_at hl 3 rfl) ?_
  refine lv_aload_n hx hb dL_law_1504 rfl (lv_at hl 1 rfl) ?_
  refine lv_iload hx hb dL_law_1505 (lv_at hl 5 rfl) ?_
  refine lv_iconst (v := 1) hx hb dL_law_1507 (by decide) ?_
  refine lv_iadd hx hb dL_law_1508 ?_
  refine xs_ld (j := 10 * t + 1) hc hw hX_b hX2_b (nI_add (10 * t) 1) (by omega) (by omega) dL_law_1509 ?_
  refine xc_Vi hc hw 7 0 (c_X7_sent (xs (10 * t + 1)) nO hRm.O hR.K.O0 Nat.zero_lt_one x_hm) rfl rfl (Nat.zero_lt_one) mw_951 mw_948 mw_4 mw_949 mw_950 xd_X7_sent ⟨by decide, by decide⟩ (rfl) hl.1 (Nat.le_of_ble_eq_true rfl) dL_law_1510 ⟨by show _ ≤ 601024; omega, by show _ ≤ 7293034; omega⟩ (fun r_1510 σ_1510 H locs hq hw => ?_)
  have hq_1510 := hq
  obtain ⟨e1, e2, hRn⟩ := hst _ _ hq_1510
  refine lv_istore (lv' := [(6, .int r_1510), (5, .int r_1498), (0, .ref b), (1, .ref (ad 6 0)), (2, .ref (ad 7 0)), (3, .ref (ad 8 0)), (4, .int (nI (10 * t)))]) hx hb dL_law_1513 hl (by decide) rfl (fun ls hl => ?_)
  refine lv_aload_n hx hb dL_law_1515 rfl (lv_at hl 4 rfl) ?_
  refine xc_Vi hc hw 7 0 (c_X7_thrown Nat.zero_lt_one x_hm) rfl rfl (Nat.zero_lt_one) mw_818 mw_815 mw_4 mw_816 mw_817 xd_X7_thrown ⟨by decide, by decide⟩ (rfl) hl.1 (Nat.le_of_ble_eq_true rfl) dL_law_1516 ⟨by show _ ≤ 601024; omega, by show _ ≤ 7293034; omega⟩ (fun r_1516 σ_1516 H locs hq hw => ?_)
  obtain ⟨hσ_1516, hr_1516⟩ := hq
  rw [hσ_1516] at hw
  refine lv_iload hx hb dL_law_1519 (lv_at hl 1 rfl) ?_
  refine lv_icmp_eq (tgt := 1526) hx hb dL_law_1521 (by decide) (fun c_1521 => ?_) (fun c_1521 => ?_)
  · refine lv_iload hx hb dL_law_1526 (lv_at hl 1 rfl) ?_
    refine lv_if_ne (tgt := 1543) hx hb dL_law_1528 (by decide) (fun c_1528 => ?_) (fun c_1528 => ?_)
    · refine lv_goto (tgt := 1602) hx hb dL_law_1543 (by decide) ?_
      refine W.widen (k := cells + 40) (n := slots + 400) (by omega) (by omega) ?_
      exact cut_1602 _ _ _ _ _ _ hRn _ _ _ (lv_sub hl [2, 3, 4, 5, 6] rfl) hw
    · refine lv_aload_n hx hb dL_law_1531 rfl (lv_at hl 5 rfl) ?_
      refine lv_iconst (v := 0) hx hb dL_law_1532 (by decide) ?_
      refine xl_ld (j := 0) hc hw (Nat.zero_lt_one) rfl (by decide) dL_law_1533 ?_
      refine lv_iload hx hb dL_law_1534 (lv_at hl 0 rfl) ?_
      refine lv_i2l hx hb dL_law_1536 rfl ?_
      refine W.lcmp hx hb dL_law_1537 ?_
      refine lv_if_eq (tgt := 1543) hx hb dL_law_1538 (by decide) (fun c_1538 => ?_) (fun c_1538 => ?_)
      · refine lv_goto (tgt := 1602) hx hb dL_law_1543 (by decide) ?_
        refine W.widen (k := cells + 40) (n := slots + 400) (by omega) (by omega) ?_
        exact cut_1602 _ _ _ _ _ _ hRn _ _ _ (lv_sub hl [2, 3, 4, 5, 6] rfl) hw
      · exact absurd c_1538 (not_not_intro (by rw [e2 c_1528]; exact x_lc0 _))
  · exact absurd c_1521 (not_not_intro (hr_1516.trans e1))
set_option maxHeartbeats 4000000 in
set_option maxRecDepth 100000 in
theorem lc_count {p : Program} {l : Launch} {e : Env} {s : State} {m : MethodId} {below : List Frame} {meth : Method} {c : Code} {b L : Nat} {xs : Nat → Int32} {D : va_G} {cs : Nat → ClassId} {base : Nat} {ad : Nat → Nat → Nat} {nS nB nC nO : Nat} {σ : x_St} {H : Heap} {locs : List Loc} {cells slots : Nat} {ls : Array Slot} {t : Nat} {Q : State → Prop} (hl0 : l.stackTraces = false) (hx : p.tables.exec = Jvm.exec) (hb : c.code = cL_law) (hc : CallFix p m c cL_law 7 s #[Value.ref b] Tw RL) (hX_b : va_X b L xs s s.heap) (hX2_b : b < base) (hL : L ≤ 5120) (ht : 10 * t + 10 ≤ L) (hce : cells + 40 ≤ 601024) (hsl : slots + 400 ≤ 7293034) (hR : Rl σ nS nB nC nO t) (hl : lv_has ls 7 [(0, .ref b), (1, .ref (ad 6 0)), (2, .ref (ad 7 0)), (3, .ref (ad 8 0)), (4, .int (nI (10 * t)))]) (hw : x_B D cs base ad (x_n nS nB nC nO) (x_s nS nB nC nO nS nC) σ s H locs)
    (cut_1602 : ∀ (ad' : Nat → Nat → Nat) (nS nB nC nO : Nat) (σ' : x_St), Rl σ' nS nB nC nO (t + 1) → ∀ (H : Heap) (locs : List Loc) (ls : Array Slot), lv_has ls 7 [(0, .ref b), (1, .ref (ad' 6 0)), (2, .ref (ad' 7 0)), (3, .ref (ad' 8 0)), (4, .int (nI (10 * t)))] → x_B D cs base ad' (x_n nS nB nC nO) (x_s nS nB nC nO nS nC) σ' s H locs → W p l e room_1 s m #[Value.ref b] below meth c H locs (cells + 40) (slots + 400) Q (F0 m 1602 ls [])) : W p l e room_1 s m #[Value.ref b] below meth c H locs cells slots Q (F0 m 1546 ls []) := by
  refine lv_aload_n hx hb dL_law_1546 rfl (lv_at hl 1 rfl) ?_
  refine lv_aload_n hx hb dL_law_1547 rfl (lv_at hl 0 rfl) ?_
  refine lv_iload hx hb dL_law_1548 (lv_at hl 4 rfl) ?_
  refine lv_iconst (v := 1) hx hb dL_law_1550 (by decide) ?_
  refine lv_iadd hx hb dL_law_1551 ?_
  refine xs_ld (j := 10 * t + 1) hc hw hX_b hX2_b (nI_add (10 * t) 1) (by omega) (by omega) dL_law_1552 ?_
  refine lv_aload_n hx hb dL_law_1553 rfl (lv_at hl 3 rfl) ?_
  refine xc_Wi hc hw (c_L_count hl0 (xs (10 * t + 1))) mw_674 mw_672 mw_0 mw_673 xd_L_count ⟨by decide, by decide⟩ (rfl) hl.1 (Nat.le_of_ble_eq_true rfl) dL_law_1554 ⟨by show _ ≤ 601024; omega, by show _ ≤ 7293034; omega⟩ (fun r_1554 σ_1554 H locs hq hw => ?_)
  have hq_1554 := hq
  obtain ⟨hkp, hst⟩ := sp_count hR hq_1554
  have hRm := hR.rm.mv hkp
  refine lv_istore (lv' := [(5, .int r_1554), (0, .ref b), (1, .ref (ad 6 0)), (2, .ref (ad 7 0)), (3, .ref (ad 8 0)), (4, .int (nI (10 * t)))]) hx hb dL_law_1557 hl (by decide) rfl (fun ls hl => ?_)
  refine lv_aload_n hx hb dL_law_1559 rfl (lv_at hl 3 rfl) ?_
  refine lv_aload_n hx hb dL_law_1560 rfl (lv_at hl 1 rfl) ?_
  refine lv_iload hx hb dL_law_1561 (lv_at hl 5 rfl) ?_
  refine lv_iconst (v := 1) hx hb dL_law_1563 (by decide) ?_
  refine lv_iadd hx hb dL_law_1564 ?_
  refine xs_ld (j := 10 * t + 1) hc hw hX_b hX2_b (nI_add (10 * t) 1) (by omega) (by omega) dL_law_1565 ?_
  refine xc_Vi hc hw 7 0 (c_X7_count (xs (10 * t + 1)) nB hRm.B hR.K.B0 Nat.zero_lt_one x_hm) rfl rfl (Nat.zero_lt_one) mw_955 mw_952 mw_4 mw_953 mw_954 xd_X7_count ⟨by decide, by decide⟩ (rfl) hl.1 (Nat.le_of_ble_eq_true rfl) dL_law_1566 ⟨by show _ ≤ 601024; omega, by show _ ≤ 7293034; omega⟩ (fun r_1566 σ_1566 H locs hq hw => ?_)
  have hq_1566 := hq
  obtain ⟨e1, e2, hRn⟩ := hst _ _ hq_1566
  refine lv_istore (lv' := [(6, .int r_1566), (5, .int r_1554), (0, .ref b), (1, .ref (ad 6 0)), (2, .ref (ad 7 0)), (3, .ref (ad 8 0)), (4, .int (nI (10 * t)))]) hx hb dL_law_1569 hl (by decide) rfl (fun ls hl => ?_)
  refine lv_aload_n hx hb dL_law_1571 rfl (lv_at hl 4 rfl) ?_
  refine xc_Vi hc hw 7 0 (c_X7_thrown Nat.zero_lt_one x_hm) rfl rfl (Nat.zero_lt_one) mw_818 mw_815 mw_4 mw_816 mw_817 xd_X7_thrown ⟨by decide, by decide⟩ (rfl) hl.1 (Nat.le_of_ble_eq_true rfl) dL_law_1572 ⟨by show _ ≤ 601024; omega, by show _ ≤ 7293034; omega⟩ (fun r_1572 σ_1572 H locs hq hw => ?_)
  obtain ⟨hσ_1572, hr_1572⟩ := hq
  rw [hσ_1572] at hw
  refine lv_iload hx hb dL_law_1575 (lv_at hl 1 rfl) ?_
  refine lv_icmp_eq (tgt := 1582) hx hb dL_law_1577 (by decide) (fun c_1577 => ?_) (fun c_1577 => ?_)
  · refine lv_iload hx hb dL_law_1582 (lv_at hl 1 rfl) ?_
    refine lv_if_ne (tgt := 1599) hx hb dL_law_1584 (by decide) (fun c_1584 => ?_) (fun c_1584 => ?_)
    · refine lv_goto (tgt := 1602) hx hb dL_law_1599 (by decide) ?_
      refine W.widen (k := cells + 40) (n := slots + 400) (by omega) (by omega) ?_
      exact cut_1602 _ _ _ _ _ _ hRn _ _ _ (lv_sub hl [2, 3, 4, 5, 6] rfl) hw
    · refine lv_aload_n hx hb dL_law_1587 rfl (lv_at hl 5 rfl) ?_
      refine lv_iconst (v := 0) hx hb dL_law_1588 (by decide) ?_
      refine xl_ld (j := 0) hc hw (Nat.zero_lt_one) rfl (by decide) dL_law_1589 ?_
      refine lv_iload hx hb dL_law_1590 (lv_at hl 0 rfl) ?_
      refine lv_i2l hx hb dL_law_1592 rfl ?_
      refine W.lcmp hx hb dL_law_1593 ?_
      refine lv_if_eq (tgt := 1599) hx hb dL_law_1594 (by decide) (fun c_1594 => ?_) (fun c_1594 => ?_)
      · refine lv_goto (tgt := 1602) hx hb dL_law_1599 (by decide) ?_
        refine W.widen (k := cells + 40) (n := slots + 400) (by omega) (by omega) ?_
        exact cut_1602 _ _ _ _ _ _ hRn _ _ _ (lv_sub hl [2, 3, 4, 5, 6] rfl) hw
      · exact absurd c_1594 (not_not_intro (by rw [e2 c_1584]; exact x_lc0 _))
  · exact absurd c_1577 (not_not_intro (hr_1572.trans e1))
