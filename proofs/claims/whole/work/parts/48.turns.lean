theorem mv_cV8 {ev : mv_E} {M : mv_M} {pc : Nat} {lv st : List Value} {h : mv_H} {Q : Option Value → mv_H → Prop} {M' : mv_M} {idx : Nat} {r1 : Option Value} {h1 : mv_H} {b ci N : Nat} {fs : List Value} {T : u_T} {a1 a2 a3 a4 a5 a6 a7 a8 : Value} (d : decode (mv_by M) pc = .ok (.invokevirtual idx, 3)) (hlk : mv_lkV M idx M' 8) (hh : h[b]? = some (.inr (ci, fs))) (hc : vwCl[ci]? = some (mv_own M', T, N)) (hlen : (mv_flat (.ref b :: [a1, a2, a3, a4, a5, a6, a7, a8])).length ≤ mv_ml M') (hst : (st.map fun v => v.category).sum ≤ 8) (hM : mv_K ev M' (.ref b :: [a1, a2, a3, a4, a5, a6, a7, a8]) h r1 h1) (kk : mv_g ev M (pc + 3) lv (r1.toList ++ st) h1 Q) : mv_g ev M pc lv (a8 :: a7 :: a6 :: a5 :: a4 :: a3 :: a2 :: a1 :: .ref b :: st) h Q := by
  obtain ⟨r, h', a, q⟩ := kk
  exact ⟨r, h', me_callV ev M pc lv st h r h' M' idx 0 0 0 0 [a1, a2, a3, a4, a5, a6, a7, a8] r1 h1 b ci N fs T d hlk hh hc hlen hst (Or.inl rfl) hM a, q⟩
theorem q_m31 (x : Int32) : ∃ n : Nat, n < 32 ∧ x &&& nI 31 = nI n := by
  refine ⟨x.toBitVec.toNat % 32, Nat.mod_lt _ (by decide), ?_⟩
  apply Int32.toBitVec_inj.mp
  rw [Int32.toBitVec_and]
  show x.toBitVec &&& BitVec.ofNat 32 (2 ^ 5 - 1) = BitVec.ofNat 32 (x.toBitVec.toNat % 2 ^ 5)
  have e : x.toBitVec = BitVec.ofNat 32 x.toBitVec.toNat := (BitVec.ofNat_toNat ..).symm ▸ (BitVec.setWidth_eq _).symm
  have e2 : x.toBitVec &&& BitVec.ofNat 32 (2 ^ 5 - 1) = BitVec.ofNat 32 x.toBitVec.toNat &&& BitVec.ofNat 32 (2 ^ 5 - 1) := congrArg (fun z => z &&& BitVec.ofNat 32 (2 ^ 5 - 1)) e
  rw [e2, ← BitVec.ofNat_and, Nat.and_two_pow_sub_one_eq_mod]
theorem q_L9 {L i : Nat} (hL : L ≤ 4608) (hi : i ≤ 5000) : (nI L - nI 9 < nI i) ↔ L < i + 9 := by
  rw [Int32.lt_iff_toInt_lt, pk_sub_toInt (by omega) (by omega), nI_toInt (by omega)]
  omega

set_option maxRecDepth 100000 in
theorem q_Lc0 {ev : mv_E} {h : mv_H} (hE : q_E ev) (hI : q_I h) (hL : ev.1 ≤ 4608) {i : Nat} (hi : i + 9 ≤ ev.1) {Q : Option Value → mv_H → Prop} (kk : ∀ h2, q_I h2 → mv_g ev mL_law 1532 [.ref 1000000, .ref 0, .ref 52, .int (nI i)] [] h2 Q) : mv_g ev mL_law 176 [.ref 1000000, .ref 0, .ref 52, .int (nI i)] [] h Q := by
  obtain ⟨fs0, hz0⟩ := q_I0 hI
  obtain ⟨r, h1, h2, K1, K2, ⟨fs1, hz1⟩, hI2⟩ := s_feed (ev := ev) hI (ev.2.1 (i + 1)) (((ev.2.1 (i + 2)).toInt64 <<< ((nI 32).toInt64 &&& 63)) ||| ((ev.2.1 (i + 3)).toInt64 &&& 4294967295))
  refine mv_aload_n dL_law_176 rfl ?_
  refine mv_aload_n dL_law_177 rfl ?_
  refine mv_iload_n dL_law_178 rfl ?_
  refine mv_iconst (v := nI 1) dL_law_179 (by decide) ?_
  refine mv_iadd dL_law_180 ?_
  refine mv_topI (y := nI (i + 1)) (nI_add i 1) ?_
  refine mv_raN (j := i + 1) dL_law_181 (List.mem_of_getElem? (i := 0) rfl) rfl (by omega) (by omega) rfl ?_
  refine mv_aload_n dL_law_182 rfl ?_
  refine mv_iload_n dL_law_183 rfl ?_
  refine mv_iconst (v := nI 2) dL_law_184 (by decide) ?_
  refine mv_iadd dL_law_185 ?_
  refine mv_topI (y := nI (i + 2)) (nI_add i 2) ?_
  refine mv_raN (j := i + 2) dL_law_186 (List.mem_of_getElem? (i := 0) rfl) rfl (by omega) (by omega) rfl ?_
  refine mv_i2l dL_law_187 ?_
  refine mv_bipush (v := nI 32) dL_law_188 (by decide) ?_
  refine mv_lshl dL_law_190 ?_
  refine mv_aload_n dL_law_191 rfl ?_
  refine mv_iload_n dL_law_192 rfl ?_
  refine mv_iconst (v := nI 3) dL_law_193 (by decide) ?_
  refine mv_iadd dL_law_194 ?_
  refine mv_topI (y := nI (i + 3)) (nI_add i 3) ?_
  refine mv_raN (j := i + 3) dL_law_195 (List.mem_of_getElem? (i := 0) rfl) rfl (by omega) (by omega) rfl ?_
  refine mv_i2l dL_law_196 ?_
  refine mv_ldc2 (v := 4294967295) dL_law_197 wd_1660 ?_
  refine mv_land dL_law_200 ?_
  refine mv_lor dL_law_201 ?_
  refine mv_cV2 (ci := 11) dL_law_202 lk_L_law_15 hz0 rfl (Nat.le_of_ble_eq_true rfl) (Nat.le_of_ble_eq_true rfl) K1 ?_
  refine mv_aload_n dL_law_205 rfl ?_
  refine mv_aload_n dL_law_206 rfl ?_
  refine mv_iload_n dL_law_207 rfl ?_
  refine mv_iconst (v := nI 1) dL_law_208 (by decide) ?_
  refine mv_iadd dL_law_209 ?_
  refine mv_topI (y := nI (i + 1)) (nI_add i 1) ?_
  refine mv_raN (j := i + 1) dL_law_210 (List.mem_of_getElem? (i := 0) rfl) rfl (by omega) (by omega) rfl ?_
  refine mv_aload_n dL_law_211 rfl ?_
  refine mv_iload_n dL_law_212 rfl ?_
  refine mv_iconst (v := nI 2) dL_law_213 (by decide) ?_
  refine mv_iadd dL_law_214 ?_
  refine mv_topI (y := nI (i + 2)) (nI_add i 2) ?_
  refine mv_raN (j := i + 2) dL_law_215 (List.mem_of_getElem? (i := 0) rfl) rfl (by omega) (by omega) rfl ?_
  refine mv_i2l dL_law_216 ?_
  refine mv_bipush (v := nI 32) dL_law_217 (by decide) ?_
  refine mv_lshl dL_law_219 ?_
  refine mv_aload_n dL_law_220 rfl ?_
  refine mv_iload_n dL_law_221 rfl ?_
  refine mv_iconst (v := nI 3) dL_law_222 (by decide) ?_
  refine mv_iadd dL_law_223 ?_
  refine mv_topI (y := nI (i + 3)) (nI_add i 3) ?_
  refine mv_raN (j := i + 3) dL_law_224 (List.mem_of_getElem? (i := 0) rfl) rfl (by omega) (by omega) rfl ?_
  refine mv_i2l dL_law_225 ?_
  refine mv_ldc2 (v := 4294967295) dL_law_226 wd_1660 ?_
  refine mv_land dL_law_229 ?_
  refine mv_lor dL_law_230 ?_
  refine mv_cV2 (ci := 12) dL_law_231 lk_L_law_19 hz1 rfl (Nat.le_of_ble_eq_true rfl) (Nat.le_of_ble_eq_true rfl) K2 ?_
  refine mv_icmp_eq (tgt := 1532) dL_law_234 (by decide) (fun _ => ?_) (fun z => absurd rfl z)
  exact kk h2 hI2
set_option maxRecDepth 100000 in
theorem q_Lc1 {ev : mv_E} {h : mv_H} (hE : q_E ev) (hI : q_I h) (hL : ev.1 ≤ 4608) {i : Nat} (hi : i + 9 ≤ ev.1) {Q : Option Value → mv_H → Prop} (kk : ∀ h2, q_I h2 → mv_g ev mL_law 1532 [.ref 1000000, .ref 0, .ref 52, .int (nI i)] [] h2 Q) : mv_g ev mL_law 239 [.ref 1000000, .ref 0, .ref 52, .int (nI i)] [] h Q := by
  obtain ⟨fs0, hz0⟩ := q_I0 hI
  obtain ⟨r, h1, h2, K1, K2, ⟨fs1, hz1⟩, hI2⟩ := s_law (ev := ev) hE hI 
  refine mv_aload_n dL_law_239 rfl ?_
  refine mv_cV0 (ci := 11) dL_law_240 lk_L_law_20 hz0 rfl (Nat.le_of_ble_eq_true rfl) (Nat.le_of_ble_eq_true rfl) K1 ?_
  refine mv_aload_n dL_law_243 rfl ?_
  refine mv_cV0 (ci := 12) dL_law_244 lk_L_law_24 hz1 rfl (Nat.le_of_ble_eq_true rfl) (Nat.le_of_ble_eq_true rfl) K2 ?_
  refine mv_icmp_eq (tgt := 1532) dL_law_247 (by decide) (fun _ => ?_) (fun z => absurd rfl z)
  exact kk h2 hI2
set_option maxRecDepth 100000 in
theorem q_Lc2 {ev : mv_E} {h : mv_H} (hE : q_E ev) (hI : q_I h) (hL : ev.1 ≤ 4608) {i : Nat} (hi : i + 9 ≤ ev.1) {Q : Option Value → mv_H → Prop} (kk : ∀ h2, q_I h2 → mv_g ev mL_law 1532 [.ref 1000000, .ref 0, .ref 52, .int (nI i)] [] h2 Q) : mv_g ev mL_law 252 [.ref 1000000, .ref 0, .ref 52, .int (nI i)] [] h Q := by
  obtain ⟨fs0, hz0⟩ := q_I0 hI
  obtain ⟨r, h1, h2, K1, K2, ⟨fs1, hz1⟩, hI2⟩ := s_fault (ev := ev) hI 
  refine mv_aload_n dL_law_252 rfl ?_
  refine mv_cV0 (ci := 11) dL_law_253 lk_L_law_25 hz0 rfl (Nat.le_of_ble_eq_true rfl) (Nat.le_of_ble_eq_true rfl) K1 ?_
  refine mv_aload_n dL_law_256 rfl ?_
  refine mv_cV0 (ci := 12) dL_law_257 lk_L_law_28 hz1 rfl (Nat.le_of_ble_eq_true rfl) (Nat.le_of_ble_eq_true rfl) K2 ?_
  refine mv_icmp_eq (tgt := 1532) dL_law_260 (by decide) (fun _ => ?_) (fun z => absurd rfl z)
  exact kk h2 hI2
set_option maxRecDepth 100000 in
theorem q_Lc3 {ev : mv_E} {h : mv_H} (hE : q_E ev) (hI : q_I h) (hL : ev.1 ≤ 4608) {i : Nat} (hi : i + 9 ≤ ev.1) {Q : Option Value → mv_H → Prop} (kk : ∀ h2, q_I h2 → mv_g ev mL_law 1532 [.ref 1000000, .ref 0, .ref 52, .int (nI i)] [] h2 Q) : mv_g ev mL_law 265 [.ref 1000000, .ref 0, .ref 52, .int (nI i)] [] h Q := by
  obtain ⟨fs0, hz0⟩ := q_I0 hI
  obtain ⟨r, h1, h2, K1, K2, ⟨fs1, hz1⟩, hI2⟩ := s_told (ev := ev) hI (ev.2.1 (i + 1))
  refine mv_aload_n dL_law_265 rfl ?_
  refine mv_aload_n dL_law_266 rfl ?_
  refine mv_iload_n dL_law_267 rfl ?_
  refine mv_iconst (v := nI 1) dL_law_268 (by decide) ?_
  refine mv_iadd dL_law_269 ?_
  refine mv_topI (y := nI (i + 1)) (nI_add i 1) ?_
  refine mv_raN (j := i + 1) dL_law_270 (List.mem_of_getElem? (i := 0) rfl) rfl (by omega) (by omega) rfl ?_
  refine mv_cV1 (ci := 11) dL_law_271 lk_L_law_29 hz0 rfl (Nat.le_of_ble_eq_true rfl) (Nat.le_of_ble_eq_true rfl) K1 ?_
  refine mv_aload_n dL_law_274 rfl ?_
  refine mv_aload_n dL_law_275 rfl ?_
  refine mv_iload_n dL_law_276 rfl ?_
  refine mv_iconst (v := nI 1) dL_law_277 (by decide) ?_
  refine mv_iadd dL_law_278 ?_
  refine mv_topI (y := nI (i + 1)) (nI_add i 1) ?_
  refine mv_raN (j := i + 1) dL_law_279 (List.mem_of_getElem? (i := 0) rfl) rfl (by omega) (by omega) rfl ?_
  refine mv_cV1 (ci := 12) dL_law_280 lk_L_law_33 hz1 rfl (Nat.le_of_ble_eq_true rfl) (Nat.le_of_ble_eq_true rfl) K2 ?_
  refine mv_icmp_eq (tgt := 1532) dL_law_283 (by decide) (fun _ => ?_) (fun z => absurd rfl z)
  exact kk h2 hI2
set_option maxRecDepth 100000 in
theorem q_Lc4 {ev : mv_E} {h : mv_H} (hE : q_E ev) (hI : q_I h) (hL : ev.1 ≤ 4608) {i : Nat} (hi : i + 9 ≤ ev.1) {Q : Option Value → mv_H → Prop} (kk : ∀ h2, q_I h2 → mv_g ev mL_law 1532 [.ref 1000000, .ref 0, .ref 52, .int (nI i)] [] h2 Q) : mv_g ev mL_law 288 [.ref 1000000, .ref 0, .ref 52, .int (nI i)] [] h Q := by
  obtain ⟨fs0, hz0⟩ := q_I0 hI
  obtain ⟨r, h1, h2, K1, K2, ⟨fs1, hz1⟩, hI2⟩ := s_cells (ev := ev) hI (ev.2.1 (i + 1)) (ev.2.1 (i + 2))
  refine mv_aload_n dL_law_288 rfl ?_
  refine mv_aload_n dL_law_289 rfl ?_
  refine mv_iload_n dL_law_290 rfl ?_
  refine mv_iconst (v := nI 1) dL_law_291 (by decide) ?_
  refine mv_iadd dL_law_292 ?_
  refine mv_topI (y := nI (i + 1)) (nI_add i 1) ?_
  refine mv_raN (j := i + 1) dL_law_293 (List.mem_of_getElem? (i := 0) rfl) rfl (by omega) (by omega) rfl ?_
  refine mv_aload_n dL_law_294 rfl ?_
  refine mv_iload_n dL_law_295 rfl ?_
  refine mv_iconst (v := nI 2) dL_law_296 (by decide) ?_
  refine mv_iadd dL_law_297 ?_
  refine mv_topI (y := nI (i + 2)) (nI_add i 2) ?_
  refine mv_raN (j := i + 2) dL_law_298 (List.mem_of_getElem? (i := 0) rfl) rfl (by omega) (by omega) rfl ?_
  refine mv_cV2 (ci := 11) dL_law_299 lk_L_law_34 hz0 rfl (Nat.le_of_ble_eq_true rfl) (Nat.le_of_ble_eq_true rfl) K1 ?_
  refine mv_aload_n dL_law_302 rfl ?_
  refine mv_aload_n dL_law_303 rfl ?_
  refine mv_iload_n dL_law_304 rfl ?_
  refine mv_iconst (v := nI 1) dL_law_305 (by decide) ?_
  refine mv_iadd dL_law_306 ?_
  refine mv_topI (y := nI (i + 1)) (nI_add i 1) ?_
  refine mv_raN (j := i + 1) dL_law_307 (List.mem_of_getElem? (i := 0) rfl) rfl (by omega) (by omega) rfl ?_
  refine mv_aload_n dL_law_308 rfl ?_
  refine mv_iload_n dL_law_309 rfl ?_
  refine mv_iconst (v := nI 2) dL_law_310 (by decide) ?_
  refine mv_iadd dL_law_311 ?_
  refine mv_topI (y := nI (i + 2)) (nI_add i 2) ?_
  refine mv_raN (j := i + 2) dL_law_312 (List.mem_of_getElem? (i := 0) rfl) rfl (by omega) (by omega) rfl ?_
  refine mv_cV2 (ci := 12) dL_law_313 lk_L_law_38 hz1 rfl (Nat.le_of_ble_eq_true rfl) (Nat.le_of_ble_eq_true rfl) K2 ?_
  refine mv_icmp_eq (tgt := 1532) dL_law_316 (by decide) (fun _ => ?_) (fun z => absurd rfl z)
  exact kk h2 hI2
set_option maxRecDepth 100000 in
theorem q_Lc5 {ev : mv_E} {h : mv_H} (hE : q_E ev) (hI : q_I h) (hL : ev.1 ≤ 4608) {i : Nat} (hi : i + 9 ≤ ev.1) {Q : Option Value → mv_H → Prop} (kk : ∀ h2, q_I h2 → mv_g ev mL_law 1532 [.ref 1000000, .ref 0, .ref 52, .int (nI i)] [] h2 Q) : mv_g ev mL_law 321 [.ref 1000000, .ref 0, .ref 52, .int (nI i)] [] h Q := by
  obtain ⟨fs0, hz0⟩ := q_I0 hI
  obtain ⟨r, h1, h2, K1, K2, ⟨fs1, hz1⟩, hI2⟩ := s_greater (ev := ev) hI (ev.2.1 (i + 1))
  refine mv_aload_n dL_law_321 rfl ?_
  refine mv_aload_n dL_law_322 rfl ?_
  refine mv_iload_n dL_law_323 rfl ?_
  refine mv_iconst (v := nI 1) dL_law_324 (by decide) ?_
  refine mv_iadd dL_law_325 ?_
  refine mv_topI (y := nI (i + 1)) (nI_add i 1) ?_
  refine mv_raN (j := i + 1) dL_law_326 (List.mem_of_getElem? (i := 0) rfl) rfl (by omega) (by omega) rfl ?_
  refine mv_cV1 (ci := 11) dL_law_327 lk_L_law_39 hz0 rfl (Nat.le_of_ble_eq_true rfl) (Nat.le_of_ble_eq_true rfl) K1 ?_
  refine mv_aload_n dL_law_330 rfl ?_
  refine mv_aload_n dL_law_331 rfl ?_
  refine mv_iload_n dL_law_332 rfl ?_
  refine mv_iconst (v := nI 1) dL_law_333 (by decide) ?_
  refine mv_iadd dL_law_334 ?_
  refine mv_topI (y := nI (i + 1)) (nI_add i 1) ?_
  refine mv_raN (j := i + 1) dL_law_335 (List.mem_of_getElem? (i := 0) rfl) rfl (by omega) (by omega) rfl ?_
  refine mv_cV1 (ci := 12) dL_law_336 lk_L_law_42 hz1 rfl (Nat.le_of_ble_eq_true rfl) (Nat.le_of_ble_eq_true rfl) K2 ?_
  refine mv_icmp_eq (tgt := 1532) dL_law_339 (by decide) (fun _ => ?_) (fun z => absurd rfl z)
  exact kk h2 hI2
set_option maxRecDepth 100000 in
theorem q_Lc6 {ev : mv_E} {h : mv_H} (hE : q_E ev) (hI : q_I h) (hL : ev.1 ≤ 4608) {i : Nat} (hi : i + 9 ≤ ev.1) {Q : Option Value → mv_H → Prop} (kk : ∀ h2, q_I h2 → mv_g ev mL_law 1532 [.ref 1000000, .ref 0, .ref 52, .int (nI i)] [] h2 Q) : mv_g ev mL_law 344 [.ref 1000000, .ref 0, .ref 52, .int (nI i)] [] h Q := by
  obtain ⟨fs0, hz0⟩ := q_I0 hI
  obtain ⟨r, h1, h2, K1, K2, ⟨fs1, hz1⟩, hI2⟩ := s_shake (ev := ev) hI (ev.2.1 (i + 1)) (ev.2.1 (i + 2)) (ev.2.1 (i + 3))
  refine mv_aload_n dL_law_344 rfl ?_
  refine mv_aload_n dL_law_345 rfl ?_
  refine mv_iload_n dL_law_346 rfl ?_
  refine mv_iconst (v := nI 1) dL_law_347 (by decide) ?_
  refine mv_iadd dL_law_348 ?_
  refine mv_topI (y := nI (i + 1)) (nI_add i 1) ?_
  refine mv_raN (j := i + 1) dL_law_349 (List.mem_of_getElem? (i := 0) rfl) rfl (by omega) (by omega) rfl ?_
  refine mv_aload_n dL_law_350 rfl ?_
  refine mv_iload_n dL_law_351 rfl ?_
  refine mv_iconst (v := nI 2) dL_law_352 (by decide) ?_
  refine mv_iadd dL_law_353 ?_
  refine mv_topI (y := nI (i + 2)) (nI_add i 2) ?_
  refine mv_raN (j := i + 2) dL_law_354 (List.mem_of_getElem? (i := 0) rfl) rfl (by omega) (by omega) rfl ?_
  refine mv_aload_n dL_law_355 rfl ?_
  refine mv_iload_n dL_law_356 rfl ?_
  refine mv_iconst (v := nI 3) dL_law_357 (by decide) ?_
  refine mv_iadd dL_law_358 ?_
  refine mv_topI (y := nI (i + 3)) (nI_add i 3) ?_
  refine mv_raN (j := i + 3) dL_law_359 (List.mem_of_getElem? (i := 0) rfl) rfl (by omega) (by omega) rfl ?_
  refine mv_cV3 (ci := 11) dL_law_360 lk_L_law_43 hz0 rfl (Nat.le_of_ble_eq_true rfl) (Nat.le_of_ble_eq_true rfl) K1 ?_
  refine mv_aload_n dL_law_363 rfl ?_
  refine mv_aload_n dL_law_364 rfl ?_
  refine mv_iload_n dL_law_365 rfl ?_
  refine mv_iconst (v := nI 1) dL_law_366 (by decide) ?_
  refine mv_iadd dL_law_367 ?_
  refine mv_topI (y := nI (i + 1)) (nI_add i 1) ?_
  refine mv_raN (j := i + 1) dL_law_368 (List.mem_of_getElem? (i := 0) rfl) rfl (by omega) (by omega) rfl ?_
  refine mv_aload_n dL_law_369 rfl ?_
  refine mv_iload_n dL_law_370 rfl ?_
  refine mv_iconst (v := nI 2) dL_law_371 (by decide) ?_
  refine mv_iadd dL_law_372 ?_
  refine mv_topI (y := nI (i + 2)) (nI_add i 2) ?_
  refine mv_raN (j := i + 2) dL_law_373 (List.mem_of_getElem? (i := 0) rfl) rfl (by omega) (by omega) rfl ?_
  refine mv_aload_n dL_law_374 rfl ?_
  refine mv_iload_n dL_law_375 rfl ?_
  refine mv_iconst (v := nI 3) dL_law_376 (by decide) ?_
  refine mv_iadd dL_law_377 ?_
  refine mv_topI (y := nI (i + 3)) (nI_add i 3) ?_
  refine mv_raN (j := i + 3) dL_law_378 (List.mem_of_getElem? (i := 0) rfl) rfl (by omega) (by omega) rfl ?_
  refine mv_cV3 (ci := 12) dL_law_379 lk_L_law_47 hz1 rfl (Nat.le_of_ble_eq_true rfl) (Nat.le_of_ble_eq_true rfl) K2 ?_
  refine mv_icmp_eq (tgt := 1532) dL_law_382 (by decide) (fun _ => ?_) (fun z => absurd rfl z)
  exact kk h2 hI2
set_option maxRecDepth 100000 in
theorem q_Lc7 {ev : mv_E} {h : mv_H} (hE : q_E ev) (hI : q_I h) (hL : ev.1 ≤ 4608) {i : Nat} (hi : i + 9 ≤ ev.1) {Q : Option Value → mv_H → Prop} (kk : ∀ h2, q_I h2 → mv_g ev mL_law 1532 [.ref 1000000, .ref 0, .ref 52, .int (nI i)] [] h2 Q) : mv_g ev mL_law 387 [.ref 1000000, .ref 0, .ref 52, .int (nI i)] [] h Q := by
  obtain ⟨fs0, hz0⟩ := q_I0 hI
  obtain ⟨r, h1, h2, K1, K2, ⟨fs1, hz1⟩, hI2⟩ := s_seed (ev := ev) hI (ev.2.1 (i + 1))
  refine mv_aload_n dL_law_387 rfl ?_
  refine mv_aload_n dL_law_388 rfl ?_
  refine mv_iload_n dL_law_389 rfl ?_
  refine mv_iconst (v := nI 1) dL_law_390 (by decide) ?_
  refine mv_iadd dL_law_391 ?_
  refine mv_topI (y := nI (i + 1)) (nI_add i 1) ?_
  refine mv_raN (j := i + 1) dL_law_392 (List.mem_of_getElem? (i := 0) rfl) rfl (by omega) (by omega) rfl ?_
  refine mv_cV1 (ci := 11) dL_law_393 lk_L_law_48 hz0 rfl (Nat.le_of_ble_eq_true rfl) (Nat.le_of_ble_eq_true rfl) K1 ?_
  refine mv_aload_n dL_law_396 rfl ?_
  refine mv_aload_n dL_law_397 rfl ?_
  refine mv_iload_n dL_law_398 rfl ?_
  refine mv_iconst (v := nI 1) dL_law_399 (by decide) ?_
  refine mv_iadd dL_law_400 ?_
  refine mv_topI (y := nI (i + 1)) (nI_add i 1) ?_
  refine mv_raN (j := i + 1) dL_law_401 (List.mem_of_getElem? (i := 0) rfl) rfl (by omega) (by omega) rfl ?_
  refine mv_cV1 (ci := 12) dL_law_402 lk_L_law_51 hz1 rfl (Nat.le_of_ble_eq_true rfl) (Nat.le_of_ble_eq_true rfl) K2 ?_
  refine mv_icmp_eq (tgt := 1532) dL_law_405 (by decide) (fun _ => ?_) (fun z => absurd rfl z)
  exact kk h2 hI2
set_option maxRecDepth 100000 in
theorem q_Lc8 {ev : mv_E} {h : mv_H} (hE : q_E ev) (hI : q_I h) (hL : ev.1 ≤ 4608) {i : Nat} (hi : i + 9 ≤ ev.1) {Q : Option Value → mv_H → Prop} (kk : ∀ h2, q_I h2 → mv_g ev mL_law 1532 [.ref 1000000, .ref 0, .ref 52, .int (nI i)] [] h2 Q) : mv_g ev mL_law 410 [.ref 1000000, .ref 0, .ref 52, .int (nI i)] [] h Q := by
  obtain ⟨fs0, hz0⟩ := q_I0 hI
  obtain ⟨r, h1, h2, K1, K2, ⟨fs1, hz1⟩, hI2⟩ := s_run (ev := ev) hI (ev.2.1 (i + 1))
  refine mv_aload_n dL_law_410 rfl ?_
  refine mv_aload_n dL_law_411 rfl ?_
  refine mv_iload_n dL_law_412 rfl ?_
  refine mv_iconst (v := nI 1) dL_law_413 (by decide) ?_
  refine mv_iadd dL_law_414 ?_
  refine mv_topI (y := nI (i + 1)) (nI_add i 1) ?_
  refine mv_raN (j := i + 1) dL_law_415 (List.mem_of_getElem? (i := 0) rfl) rfl (by omega) (by omega) rfl ?_
  refine mv_cV1 (ci := 11) dL_law_416 lk_L_law_52 hz0 rfl (Nat.le_of_ble_eq_true rfl) (Nat.le_of_ble_eq_true rfl) K1 ?_
  refine mv_aload_n dL_law_419 rfl ?_
  refine mv_aload_n dL_law_420 rfl ?_
  refine mv_iload_n dL_law_421 rfl ?_
  refine mv_iconst (v := nI 1) dL_law_422 (by decide) ?_
  refine mv_iadd dL_law_423 ?_
  refine mv_topI (y := nI (i + 1)) (nI_add i 1) ?_
  refine mv_raN (j := i + 1) dL_law_424 (List.mem_of_getElem? (i := 0) rfl) rfl (by omega) (by omega) rfl ?_
  refine mv_cV1 (ci := 12) dL_law_425 lk_L_law_55 hz1 rfl (Nat.le_of_ble_eq_true rfl) (Nat.le_of_ble_eq_true rfl) K2 ?_
  refine mv_icmp_eq (tgt := 1532) dL_law_428 (by decide) (fun _ => ?_) (fun z => absurd rfl z)
  exact kk h2 hI2
set_option maxRecDepth 100000 in
theorem q_Lc9 {ev : mv_E} {h : mv_H} (hE : q_E ev) (hI : q_I h) (hL : ev.1 ≤ 4608) {i : Nat} (hi : i + 9 ≤ ev.1) {Q : Option Value → mv_H → Prop} (kk : ∀ h2, q_I h2 → mv_g ev mL_law 1532 [.ref 1000000, .ref 0, .ref 52, .int (nI i)] [] h2 Q) : mv_g ev mL_law 433 [.ref 1000000, .ref 0, .ref 52, .int (nI i)] [] h Q := by
  obtain ⟨fs0, hz0⟩ := q_I0 hI
  obtain ⟨r, h1, h2, K1, K2, ⟨fs1, hz1⟩, hI2⟩ := s_about (ev := ev) hI (ev.2.1 (i + 1)) (ev.2.1 (i + 2))
  refine mv_aload_n dL_law_433 rfl ?_
  refine mv_aload_n dL_law_434 rfl ?_
  refine mv_iload_n dL_law_435 rfl ?_
  refine mv_iconst (v := nI 1) dL_law_436 (by decide) ?_
  refine mv_iadd dL_law_437 ?_
  refine mv_topI (y := nI (i + 1)) (nI_add i 1) ?_
  refine mv_raN (j := i + 1) dL_law_438 (List.mem_of_getElem? (i := 0) rfl) rfl (by omega) (by omega) rfl ?_
  refine mv_aload_n dL_law_439 rfl ?_
  refine mv_iload_n dL_law_440 rfl ?_
  refine mv_iconst (v := nI 2) dL_law_441 (by decide) ?_
  refine mv_iadd dL_law_442 ?_
  refine mv_topI (y := nI (i + 2)) (nI_add i 2) ?_
  refine mv_raN (j := i + 2) dL_law_443 (List.mem_of_getElem? (i := 0) rfl) rfl (by omega) (by omega) rfl ?_
  refine mv_cV2 (ci := 11) dL_law_444 lk_L_law_56 hz0 rfl (Nat.le_of_ble_eq_true rfl) (Nat.le_of_ble_eq_true rfl) K1 ?_
  refine mv_aload_n dL_law_447 rfl ?_
  refine mv_aload_n dL_law_448 rfl ?_
  refine mv_iload_n dL_law_449 rfl ?_
  refine mv_iconst (v := nI 1) dL_law_450 (by decide) ?_
  refine mv_iadd dL_law_451 ?_
  refine mv_topI (y := nI (i + 1)) (nI_add i 1) ?_
  refine mv_raN (j := i + 1) dL_law_452 (List.mem_of_getElem? (i := 0) rfl) rfl (by omega) (by omega) rfl ?_
  refine mv_aload_n dL_law_453 rfl ?_
  refine mv_iload_n dL_law_454 rfl ?_
  refine mv_iconst (v := nI 2) dL_law_455 (by decide) ?_
  refine mv_iadd dL_law_456 ?_
  refine mv_topI (y := nI (i + 2)) (nI_add i 2) ?_
  refine mv_raN (j := i + 2) dL_law_457 (List.mem_of_getElem? (i := 0) rfl) rfl (by omega) (by omega) rfl ?_
  refine mv_cV2 (ci := 12) dL_law_458 lk_L_law_59 hz1 rfl (Nat.le_of_ble_eq_true rfl) (Nat.le_of_ble_eq_true rfl) K2 ?_
  refine mv_icmp_eq (tgt := 1532) dL_law_461 (by decide) (fun _ => ?_) (fun z => absurd rfl z)
  exact kk h2 hI2
set_option maxRecDepth 100000 in
theorem q_Lc10 {ev : mv_E} {h : mv_H} (hE : q_E ev) (hI : q_I h) (hL : ev.1 ≤ 4608) {i : Nat} (hi : i + 9 ≤ ev.1) {Q : Option Value → mv_H → Prop} (kk : ∀ h2, q_I h2 → mv_g ev mL_law 1532 [.ref 1000000, .ref 0, .ref 52, .int (nI i)] [] h2 Q) : mv_g ev mL_law 466 [.ref 1000000, .ref 0, .ref 52, .int (nI i)] [] h Q := by
  obtain ⟨fs0, hz0⟩ := q_I0 hI
  obtain ⟨r, h1, h2, K1, K2, ⟨fs1, hz1⟩, hI2⟩ := s_count (ev := ev) hI (ev.2.1 (i + 1))
  refine mv_aload_n dL_law_466 rfl ?_
  refine mv_aload_n dL_law_467 rfl ?_
  refine mv_iload_n dL_law_468 rfl ?_
  refine mv_iconst (v := nI 1) dL_law_469 (by decide) ?_
  refine mv_iadd dL_law_470 ?_
  refine mv_topI (y := nI (i + 1)) (nI_add i 1) ?_
  refine mv_raN (j := i + 1) dL_law_471 (List.mem_of_getElem? (i := 0) rfl) rfl (by omega) (by omega) rfl ?_
  refine mv_cV1 (ci := 11) dL_law_472 lk_L_law_60 hz0 rfl (Nat.le_of_ble_eq_true rfl) (Nat.le_of_ble_eq_true rfl) K1 ?_
  refine mv_aload_n dL_law_475 rfl ?_
  refine mv_aload_n dL_law_476 rfl ?_
  refine mv_iload_n dL_law_477 rfl ?_
  refine mv_iconst (v := nI 1) dL_law_478 (by decide) ?_
  refine mv_iadd dL_law_479 ?_
  refine mv_topI (y := nI (i + 1)) (nI_add i 1) ?_
  refine mv_raN (j := i + 1) dL_law_480 (List.mem_of_getElem? (i := 0) rfl) rfl (by omega) (by omega) rfl ?_
  refine mv_cV1 (ci := 12) dL_law_481 lk_L_law_63 hz1 rfl (Nat.le_of_ble_eq_true rfl) (Nat.le_of_ble_eq_true rfl) K2 ?_
  refine mv_icmp_eq (tgt := 1532) dL_law_484 (by decide) (fun _ => ?_) (fun z => absurd rfl z)
  exact kk h2 hI2
set_option maxRecDepth 100000 in
theorem q_Lc11 {ev : mv_E} {h : mv_H} (hE : q_E ev) (hI : q_I h) (hL : ev.1 ≤ 4608) {i : Nat} (hi : i + 9 ≤ ev.1) {Q : Option Value → mv_H → Prop} (kk : ∀ h2, q_I h2 → mv_g ev mL_law 1532 [.ref 1000000, .ref 0, .ref 52, .int (nI i)] [] h2 Q) : mv_g ev mL_law 489 [.ref 1000000, .ref 0, .ref 52, .int (nI i)] [] h Q := by
  obtain ⟨fs0, hz0⟩ := q_I0 hI
  obtain ⟨r, h1, h2, K1, K2, ⟨fs1, hz1⟩, hI2⟩ := s_odds (ev := ev) hI (ev.2.1 (i + 1)) (ev.2.1 (i + 2)) (ev.2.1 (i + 3)) (ev.2.1 (i + 4)) (ev.2.1 (i + 5)) (ev.2.1 (i + 6))
  refine mv_aload_n dL_law_489 rfl ?_
  refine mv_aload_n dL_law_490 rfl ?_
  refine mv_iload_n dL_law_491 rfl ?_
  refine mv_iconst (v := nI 1) dL_law_492 (by decide) ?_
  refine mv_iadd dL_law_493 ?_
  refine mv_topI (y := nI (i + 1)) (nI_add i 1) ?_
  refine mv_raN (j := i + 1) dL_law_494 (List.mem_of_getElem? (i := 0) rfl) rfl (by omega) (by omega) rfl ?_
  refine mv_aload_n dL_law_495 rfl ?_
  refine mv_iload_n dL_law_496 rfl ?_
  refine mv_iconst (v := nI 2) dL_law_497 (by decide) ?_
  refine mv_iadd dL_law_498 ?_
  refine mv_topI (y := nI (i + 2)) (nI_add i 2) ?_
  refine mv_raN (j := i + 2) dL_law_499 (List.mem_of_getElem? (i := 0) rfl) rfl (by omega) (by omega) rfl ?_
  refine mv_aload_n dL_law_500 rfl ?_
  refine mv_iload_n dL_law_501 rfl ?_
  refine mv_iconst (v := nI 3) dL_law_502 (by decide) ?_
  refine mv_iadd dL_law_503 ?_
  refine mv_topI (y := nI (i + 3)) (nI_add i 3) ?_
  refine mv_raN (j := i + 3) dL_law_504 (List.mem_of_getElem? (i := 0) rfl) rfl (by omega) (by omega) rfl ?_
  refine mv_aload_n dL_law_505 rfl ?_
  refine mv_iload_n dL_law_506 rfl ?_
  refine mv_iconst (v := nI 4) dL_law_507 (by decide) ?_
  refine mv_iadd dL_law_508 ?_
  refine mv_topI (y := nI (i + 4)) (nI_add i 4) ?_
  refine mv_raN (j := i + 4) dL_law_509 (List.mem_of_getElem? (i := 0) rfl) rfl (by omega) (by omega) rfl ?_
  refine mv_aload_n dL_law_510 rfl ?_
  refine mv_iload_n dL_law_511 rfl ?_
  refine mv_iconst (v := nI 5) dL_law_512 (by decide) ?_
  refine mv_iadd dL_law_513 ?_
  refine mv_topI (y := nI (i + 5)) (nI_add i 5) ?_
  refine mv_raN (j := i + 5) dL_law_514 (List.mem_of_getElem? (i := 0) rfl) rfl (by omega) (by omega) rfl ?_
  refine mv_aload_n dL_law_515 rfl ?_
  refine mv_iload_n dL_law_516 rfl ?_
  refine mv_bipush (v := nI 6) dL_law_517 (by decide) ?_
  refine mv_iadd dL_law_519 ?_
  refine mv_topI (y := nI (i + 6)) (nI_add i 6) ?_
  refine mv_raN (j := i + 6) dL_law_520 (List.mem_of_getElem? (i := 0) rfl) rfl (by omega) (by omega) rfl ?_
  refine mv_cV6 (ci := 11) dL_law_521 lk_L_law_64 hz0 rfl (Nat.le_of_ble_eq_true rfl) (Nat.le_of_ble_eq_true rfl) K1 ?_
  refine mv_aload_n dL_law_524 rfl ?_
  refine mv_aload_n dL_law_525 rfl ?_
  refine mv_iload_n dL_law_526 rfl ?_
  refine mv_iconst (v := nI 1) dL_law_527 (by decide) ?_
  refine mv_iadd dL_law_528 ?_
  refine mv_topI (y := nI (i + 1)) (nI_add i 1) ?_
  refine mv_raN (j := i + 1) dL_law_529 (List.mem_of_getElem? (i := 0) rfl) rfl (by omega) (by omega) rfl ?_
  refine mv_aload_n dL_law_530 rfl ?_
  refine mv_iload_n dL_law_531 rfl ?_
  refine mv_iconst (v := nI 2) dL_law_532 (by decide) ?_
  refine mv_iadd dL_law_533 ?_
  refine mv_topI (y := nI (i + 2)) (nI_add i 2) ?_
  refine mv_raN (j := i + 2) dL_law_534 (List.mem_of_getElem? (i := 0) rfl) rfl (by omega) (by omega) rfl ?_
  refine mv_aload_n dL_law_535 rfl ?_
  refine mv_iload_n dL_law_536 rfl ?_
  refine mv_iconst (v := nI 3) dL_law_537 (by decide) ?_
  refine mv_iadd dL_law_538 ?_
  refine mv_topI (y := nI (i + 3)) (nI_add i 3) ?_
  refine mv_raN (j := i + 3) dL_law_539 (List.mem_of_getElem? (i := 0) rfl) rfl (by omega) (by omega) rfl ?_
  refine mv_aload_n dL_law_540 rfl ?_
  refine mv_iload_n dL_law_541 rfl ?_
  refine mv_iconst (v := nI 4) dL_law_542 (by decide) ?_
  refine mv_iadd dL_law_543 ?_
  refine mv_topI (y := nI (i + 4)) (nI_add i 4) ?_
  refine mv_raN (j := i + 4) dL_law_544 (List.mem_of_getElem? (i := 0) rfl) rfl (by omega) (by omega) rfl ?_
  refine mv_aload_n dL_law_545 rfl ?_
  refine mv_iload_n dL_law_546 rfl ?_
  refine mv_iconst (v := nI 5) dL_law_547 (by decide) ?_
  refine mv_iadd dL_law_548 ?_
  refine mv_topI (y := nI (i + 5)) (nI_add i 5) ?_
  refine mv_raN (j := i + 5) dL_law_549 (List.mem_of_getElem? (i := 0) rfl) rfl (by omega) (by omega) rfl ?_
  refine mv_aload_n dL_law_550 rfl ?_
  refine mv_iload_n dL_law_551 rfl ?_
  refine mv_bipush (v := nI 6) dL_law_552 (by decide) ?_
  refine mv_iadd dL_law_554 ?_
  refine mv_topI (y := nI (i + 6)) (nI_add i 6) ?_
  refine mv_raN (j := i + 6) dL_law_555 (List.mem_of_getElem? (i := 0) rfl) rfl (by omega) (by omega) rfl ?_
  refine mv_cV6 (ci := 12) dL_law_556 lk_L_law_68 hz1 rfl (Nat.le_of_ble_eq_true rfl) (Nat.le_of_ble_eq_true rfl) K2 ?_
  refine mv_icmp_eq (tgt := 1532) dL_law_559 (by decide) (fun _ => ?_) (fun z => absurd rfl z)
  exact kk h2 hI2
set_option maxRecDepth 100000 in
theorem q_Lc12 {ev : mv_E} {h : mv_H} (hE : q_E ev) (hI : q_I h) (hL : ev.1 ≤ 4608) {i : Nat} (hi : i + 9 ≤ ev.1) {Q : Option Value → mv_H → Prop} (kk : ∀ h2, q_I h2 → mv_g ev mL_law 1532 [.ref 1000000, .ref 0, .ref 52, .int (nI i)] [] h2 Q) : mv_g ev mL_law 564 [.ref 1000000, .ref 0, .ref 52, .int (nI i)] [] h Q := by
  obtain ⟨fs0, hz0⟩ := q_I0 hI
  obtain ⟨r, h1, h2, K1, K2, ⟨fs1, hz1⟩, hI2⟩ := s_watch (ev := ev) hI (ev.2.1 (i + 1)) (ev.2.1 (i + 2)) (ev.2.1 (i + 3)) (ev.2.1 (i + 4))
  refine mv_aload_n dL_law_564 rfl ?_
  refine mv_aload_n dL_law_565 rfl ?_
  refine mv_iload_n dL_law_566 rfl ?_
  refine mv_iconst (v := nI 1) dL_law_567 (by decide) ?_
  refine mv_iadd dL_law_568 ?_
  refine mv_topI (y := nI (i + 1)) (nI_add i 1) ?_
  refine mv_raN (j := i + 1) dL_law_569 (List.mem_of_getElem? (i := 0) rfl) rfl (by omega) (by omega) rfl ?_
  refine mv_aload_n dL_law_570 rfl ?_
  refine mv_iload_n dL_law_571 rfl ?_
  refine mv_iconst (v := nI 2) dL_law_572 (by decide) ?_
  refine mv_iadd dL_law_573 ?_
  refine mv_topI (y := nI (i + 2)) (nI_add i 2) ?_
  refine mv_raN (j := i + 2) dL_law_574 (List.mem_of_getElem? (i := 0) rfl) rfl (by omega) (by omega) rfl ?_
  refine mv_aload_n dL_law_575 rfl ?_
  refine mv_iload_n dL_law_576 rfl ?_
  refine mv_iconst (v := nI 3) dL_law_577 (by decide) ?_
  refine mv_iadd dL_law_578 ?_
  refine mv_topI (y := nI (i + 3)) (nI_add i 3) ?_
  refine mv_raN (j := i + 3) dL_law_579 (List.mem_of_getElem? (i := 0) rfl) rfl (by omega) (by omega) rfl ?_
  refine mv_aload_n dL_law_580 rfl ?_
  refine mv_iload_n dL_law_581 rfl ?_
  refine mv_iconst (v := nI 4) dL_law_582 (by decide) ?_
  refine mv_iadd dL_law_583 ?_
  refine mv_topI (y := nI (i + 4)) (nI_add i 4) ?_
  refine mv_raN (j := i + 4) dL_law_584 (List.mem_of_getElem? (i := 0) rfl) rfl (by omega) (by omega) rfl ?_
  refine mv_cV4 (ci := 11) dL_law_585 lk_L_law_69 hz0 rfl (Nat.le_of_ble_eq_true rfl) (Nat.le_of_ble_eq_true rfl) K1 ?_
  refine mv_aload_n dL_law_588 rfl ?_
  refine mv_aload_n dL_law_589 rfl ?_
  refine mv_iload_n dL_law_590 rfl ?_
  refine mv_iconst (v := nI 1) dL_law_591 (by decide) ?_
  refine mv_iadd dL_law_592 ?_
  refine mv_topI (y := nI (i + 1)) (nI_add i 1) ?_
  refine mv_raN (j := i + 1) dL_law_593 (List.mem_of_getElem? (i := 0) rfl) rfl (by omega) (by omega) rfl ?_
  refine mv_aload_n dL_law_594 rfl ?_
  refine mv_iload_n dL_law_595 rfl ?_
  refine mv_iconst (v := nI 2) dL_law_596 (by decide) ?_
  refine mv_iadd dL_law_597 ?_
  refine mv_topI (y := nI (i + 2)) (nI_add i 2) ?_
  refine mv_raN (j := i + 2) dL_law_598 (List.mem_of_getElem? (i := 0) rfl) rfl (by omega) (by omega) rfl ?_
  refine mv_aload_n dL_law_599 rfl ?_
  refine mv_iload_n dL_law_600 rfl ?_
  refine mv_iconst (v := nI 3) dL_law_601 (by decide) ?_
  refine mv_iadd dL_law_602 ?_
  refine mv_topI (y := nI (i + 3)) (nI_add i 3) ?_
  refine mv_raN (j := i + 3) dL_law_603 (List.mem_of_getElem? (i := 0) rfl) rfl (by omega) (by omega) rfl ?_
  refine mv_aload_n dL_law_604 rfl ?_
  refine mv_iload_n dL_law_605 rfl ?_
  refine mv_iconst (v := nI 4) dL_law_606 (by decide) ?_
  refine mv_iadd dL_law_607 ?_
  refine mv_topI (y := nI (i + 4)) (nI_add i 4) ?_
  refine mv_raN (j := i + 4) dL_law_608 (List.mem_of_getElem? (i := 0) rfl) rfl (by omega) (by omega) rfl ?_
  refine mv_cV4 (ci := 12) dL_law_609 lk_L_law_73 hz1 rfl (Nat.le_of_ble_eq_true rfl) (Nat.le_of_ble_eq_true rfl) K2 ?_
  refine mv_icmp_eq (tgt := 1532) dL_law_612 (by decide) (fun _ => ?_) (fun z => absurd rfl z)
  exact kk h2 hI2
set_option maxRecDepth 100000 in
theorem q_Lc13 {ev : mv_E} {h : mv_H} (hE : q_E ev) (hI : q_I h) (hL : ev.1 ≤ 4608) {i : Nat} (hi : i + 9 ≤ ev.1) {Q : Option Value → mv_H → Prop} (kk : ∀ h2, q_I h2 → mv_g ev mL_law 1532 [.ref 1000000, .ref 0, .ref 52, .int (nI i)] [] h2 Q) : mv_g ev mL_law 617 [.ref 1000000, .ref 0, .ref 52, .int (nI i)] [] h Q := by
  obtain ⟨fs0, hz0⟩ := q_I0 hI
  by_cases c : ev.2.1 (i + 2) = 0
  · obtain ⟨r, h1, h2, K1, K2, ⟨fs1, hz1⟩, hI2⟩ := s_rain (ev := ev) hI (ev.2.1 (i + 1)) 0 (by decide)
    refine mv_aload_n dL_law_617 rfl ?_
    refine mv_aload_n dL_law_618 rfl ?_
    refine mv_iload_n dL_law_619 rfl ?_
    refine mv_iconst (v := nI 1) dL_law_620 (by decide) ?_
    refine mv_iadd dL_law_621 ?_
    refine mv_topI (y := nI (i + 1)) (nI_add i 1) ?_
    refine mv_raN (j := i + 1) dL_law_622 (List.mem_of_getElem? (i := 0) rfl) rfl (by omega) (by omega) rfl ?_
    refine mv_aload_n dL_law_623 rfl ?_
    refine mv_iload_n dL_law_624 rfl ?_
    refine mv_iconst (v := nI 2) dL_law_625 (by decide) ?_
    refine mv_iadd dL_law_626 ?_
    refine mv_topI (y := nI (i + 2)) (nI_add i 2) ?_
    refine mv_raN (j := i + 2) dL_law_627 (List.mem_of_getElem? (i := 0) rfl) rfl (by omega) (by omega) rfl ?_
    refine mv_if_eq (tgt := 635) dL_law_628 (by decide) (fun _ => ?_) (fun z => absurd c z)
    refine mv_iconst (v := nI 0) dL_law_635 (by decide) ?_
    refine mv_cV2 (ci := 11) dL_law_636 lk_L_law_74 hz0 rfl (Nat.le_of_ble_eq_true rfl) (Nat.le_of_ble_eq_true rfl) K1 ?_
    refine mv_aload_n dL_law_639 rfl ?_
    refine mv_aload_n dL_law_640 rfl ?_
    refine mv_iload_n dL_law_641 rfl ?_
    refine mv_iconst (v := nI 1) dL_law_642 (by decide) ?_
    refine mv_iadd dL_law_643 ?_
    refine mv_topI (y := nI (i + 1)) (nI_add i 1) ?_
    refine mv_raN (j := i + 1) dL_law_644 (List.mem_of_getElem? (i := 0) rfl) rfl (by omega) (by omega) rfl ?_
    refine mv_aload_n dL_law_645 rfl ?_
    refine mv_iload_n dL_law_646 rfl ?_
    refine mv_iconst (v := nI 2) dL_law_647 (by decide) ?_
    refine mv_iadd dL_law_648 ?_
    refine mv_topI (y := nI (i + 2)) (nI_add i 2) ?_
    refine mv_raN (j := i + 2) dL_law_649 (List.mem_of_getElem? (i := 0) rfl) rfl (by omega) (by omega) rfl ?_
    refine mv_if_eq (tgt := 657) dL_law_650 (by decide) (fun _ => ?_) (fun z => absurd c z)
    refine mv_iconst (v := nI 0) dL_law_657 (by decide) ?_
    refine mv_cV2 (ci := 12) dL_law_658 lk_L_law_78 hz1 rfl (Nat.le_of_ble_eq_true rfl) (Nat.le_of_ble_eq_true rfl) K2 ?_
    refine mv_icmp_eq (tgt := 1532) dL_law_661 (by decide) (fun _ => ?_) (fun z => absurd rfl z)
    exact kk h2 hI2
  · obtain ⟨r, h1, h2, K1, K2, ⟨fs1, hz1⟩, hI2⟩ := s_rain (ev := ev) hI (ev.2.1 (i + 1)) 1 (by decide)
    refine mv_aload_n dL_law_617 rfl ?_
    refine mv_aload_n dL_law_618 rfl ?_
    refine mv_iload_n dL_law_619 rfl ?_
    refine mv_iconst (v := nI 1) dL_law_620 (by decide) ?_
    refine mv_iadd dL_law_621 ?_
    refine mv_topI (y := nI (i + 1)) (nI_add i 1) ?_
    refine mv_raN (j := i + 1) dL_law_622 (List.mem_of_getElem? (i := 0) rfl) rfl (by omega) (by omega) rfl ?_
    refine mv_aload_n dL_law_623 rfl ?_
    refine mv_iload_n dL_law_624 rfl ?_
    refine mv_iconst (v := nI 2) dL_law_625 (by decide) ?_
    refine mv_iadd dL_law_626 ?_
    refine mv_topI (y := nI (i + 2)) (nI_add i 2) ?_
    refine mv_raN (j := i + 2) dL_law_627 (List.mem_of_getElem? (i := 0) rfl) rfl (by omega) (by omega) rfl ?_
    refine mv_if_eq (tgt := 635) dL_law_628 (by decide) (fun z => absurd z c) (fun _ => ?_)
    refine mv_iconst (v := nI 1) dL_law_631 (by decide) ?_
    refine mv_goto (tgt := 636) dL_law_632 (by decide) ?_
    refine mv_cV2 (ci := 11) dL_law_636 lk_L_law_74 hz0 rfl (Nat.le_of_ble_eq_true rfl) (Nat.le_of_ble_eq_true rfl) K1 ?_
    refine mv_aload_n dL_law_639 rfl ?_
    refine mv_aload_n dL_law_640 rfl ?_
    refine mv_iload_n dL_law_641 rfl ?_
    refine mv_iconst (v := nI 1) dL_law_642 (by decide) ?_
    refine mv_iadd dL_law_643 ?_
    refine mv_topI (y := nI (i + 1)) (nI_add i 1) ?_
    refine mv_raN (j := i + 1) dL_law_644 (List.mem_of_getElem? (i := 0) rfl) rfl (by omega) (by omega) rfl ?_
    refine mv_aload_n dL_law_645 rfl ?_
    refine mv_iload_n dL_law_646 rfl ?_
    refine mv_iconst (v := nI 2) dL_law_647 (by decide) ?_
    refine mv_iadd dL_law_648 ?_
    refine mv_topI (y := nI (i + 2)) (nI_add i 2) ?_
    refine mv_raN (j := i + 2) dL_law_649 (List.mem_of_getElem? (i := 0) rfl) rfl (by omega) (by omega) rfl ?_
    refine mv_if_eq (tgt := 657) dL_law_650 (by decide) (fun z => absurd z c) (fun _ => ?_)
    refine mv_iconst (v := nI 1) dL_law_653 (by decide) ?_
    refine mv_goto (tgt := 658) dL_law_654 (by decide) ?_
    refine mv_cV2 (ci := 12) dL_law_658 lk_L_law_78 hz1 rfl (Nat.le_of_ble_eq_true rfl) (Nat.le_of_ble_eq_true rfl) K2 ?_
    refine mv_icmp_eq (tgt := 1532) dL_law_661 (by decide) (fun _ => ?_) (fun z => absurd rfl z)
    exact kk h2 hI2
set_option maxRecDepth 100000 in
theorem q_Lc14 {ev : mv_E} {h : mv_H} (hE : q_E ev) (hI : q_I h) (hL : ev.1 ≤ 4608) {i : Nat} (hi : i + 9 ≤ ev.1) {Q : Option Value → mv_H → Prop} (kk : ∀ h2, q_I h2 → mv_g ev mL_law 1532 [.ref 1000000, .ref 0, .ref 52, .int (nI i)] [] h2 Q) : mv_g ev mL_law 666 [.ref 1000000, .ref 0, .ref 52, .int (nI i)] [] h Q := by
  obtain ⟨fs0, hz0⟩ := q_I0 hI
  obtain ⟨r, h1, h2, K1, K2, ⟨fs1, hz1⟩, hI2⟩ := s_sign (ev := ev) hI (ev.2.1 (i + 1)) (ev.2.1 (i + 2)) (ev.2.1 (i + 3)) (ev.2.1 (i + 4))
  refine mv_aload_n dL_law_666 rfl ?_
  refine mv_aload_n dL_law_667 rfl ?_
  refine mv_iload_n dL_law_668 rfl ?_
  refine mv_iconst (v := nI 1) dL_law_669 (by decide) ?_
  refine mv_iadd dL_law_670 ?_
  refine mv_topI (y := nI (i + 1)) (nI_add i 1) ?_
  refine mv_raN (j := i + 1) dL_law_671 (List.mem_of_getElem? (i := 0) rfl) rfl (by omega) (by omega) rfl ?_
  refine mv_aload_n dL_law_672 rfl ?_
  refine mv_iload_n dL_law_673 rfl ?_
  refine mv_iconst (v := nI 2) dL_law_674 (by decide) ?_
  refine mv_iadd dL_law_675 ?_
  refine mv_topI (y := nI (i + 2)) (nI_add i 2) ?_
  refine mv_raN (j := i + 2) dL_law_676 (List.mem_of_getElem? (i := 0) rfl) rfl (by omega) (by omega) rfl ?_
  refine mv_aload_n dL_law_677 rfl ?_
  refine mv_iload_n dL_law_678 rfl ?_
  refine mv_iconst (v := nI 3) dL_law_679 (by decide) ?_
  refine mv_iadd dL_law_680 ?_
  refine mv_topI (y := nI (i + 3)) (nI_add i 3) ?_
  refine mv_raN (j := i + 3) dL_law_681 (List.mem_of_getElem? (i := 0) rfl) rfl (by omega) (by omega) rfl ?_
  refine mv_aload_n dL_law_682 rfl ?_
  refine mv_iload_n dL_law_683 rfl ?_
  refine mv_iconst (v := nI 4) dL_law_684 (by decide) ?_
  refine mv_iadd dL_law_685 ?_
  refine mv_topI (y := nI (i + 4)) (nI_add i 4) ?_
  refine mv_raN (j := i + 4) dL_law_686 (List.mem_of_getElem? (i := 0) rfl) rfl (by omega) (by omega) rfl ?_
  refine mv_cV4 (ci := 11) dL_law_687 lk_L_law_79 hz0 rfl (Nat.le_of_ble_eq_true rfl) (Nat.le_of_ble_eq_true rfl) K1 ?_
  refine mv_aload_n dL_law_690 rfl ?_
  refine mv_aload_n dL_law_691 rfl ?_
  refine mv_iload_n dL_law_692 rfl ?_
  refine mv_iconst (v := nI 1) dL_law_693 (by decide) ?_
  refine mv_iadd dL_law_694 ?_
  refine mv_topI (y := nI (i + 1)) (nI_add i 1) ?_
  refine mv_raN (j := i + 1) dL_law_695 (List.mem_of_getElem? (i := 0) rfl) rfl (by omega) (by omega) rfl ?_
  refine mv_aload_n dL_law_696 rfl ?_
  refine mv_iload_n dL_law_697 rfl ?_
  refine mv_iconst (v := nI 2) dL_law_698 (by decide) ?_
  refine mv_iadd dL_law_699 ?_
  refine mv_topI (y := nI (i + 2)) (nI_add i 2) ?_
  refine mv_raN (j := i + 2) dL_law_700 (List.mem_of_getElem? (i := 0) rfl) rfl (by omega) (by omega) rfl ?_
  refine mv_aload_n dL_law_701 rfl ?_
  refine mv_iload_n dL_law_702 rfl ?_
  refine mv_iconst (v := nI 3) dL_law_703 (by decide) ?_
  refine mv_iadd dL_law_704 ?_
  refine mv_topI (y := nI (i + 3)) (nI_add i 3) ?_
  refine mv_raN (j := i + 3) dL_law_705 (List.mem_of_getElem? (i := 0) rfl) rfl (by omega) (by omega) rfl ?_
  refine mv_aload_n dL_law_706 rfl ?_
  refine mv_iload_n dL_law_707 rfl ?_
  refine mv_iconst (v := nI 4) dL_law_708 (by decide) ?_
  refine mv_iadd dL_law_709 ?_
  refine mv_topI (y := nI (i + 4)) (nI_add i 4) ?_
  refine mv_raN (j := i + 4) dL_law_710 (List.mem_of_getElem? (i := 0) rfl) rfl (by omega) (by omega) rfl ?_
  refine mv_cV4 (ci := 12) dL_law_711 lk_L_law_82 hz1 rfl (Nat.le_of_ble_eq_true rfl) (Nat.le_of_ble_eq_true rfl) K2 ?_
  refine mv_icmp_eq (tgt := 1532) dL_law_714 (by decide) (fun _ => ?_) (fun z => absurd rfl z)
  exact kk h2 hI2
set_option maxRecDepth 100000 in
theorem q_Lc15 {ev : mv_E} {h : mv_H} (hE : q_E ev) (hI : q_I h) (hL : ev.1 ≤ 4608) {i : Nat} (hi : i + 9 ≤ ev.1) {Q : Option Value → mv_H → Prop} (kk : ∀ h2, q_I h2 → mv_g ev mL_law 1532 [.ref 1000000, .ref 0, .ref 52, .int (nI i)] [] h2 Q) : mv_g ev mL_law 719 [.ref 1000000, .ref 0, .ref 52, .int (nI i)] [] h Q := by
  obtain ⟨fs0, hz0⟩ := q_I0 hI
  obtain ⟨r, h1, h2, K1, K2, ⟨fs1, hz1⟩, hI2⟩ := s_omen (ev := ev) hI (ev.2.1 (i + 1)) (ev.2.1 (i + 2))
  refine mv_aload_n dL_law_719 rfl ?_
  refine mv_aload_n dL_law_720 rfl ?_
  refine mv_iload_n dL_law_721 rfl ?_
  refine mv_iconst (v := nI 1) dL_law_722 (by decide) ?_
  refine mv_iadd dL_law_723 ?_
  refine mv_topI (y := nI (i + 1)) (nI_add i 1) ?_
  refine mv_raN (j := i + 1) dL_law_724 (List.mem_of_getElem? (i := 0) rfl) rfl (by omega) (by omega) rfl ?_
  refine mv_aload_n dL_law_725 rfl ?_
  refine mv_iload_n dL_law_726 rfl ?_
  refine mv_iconst (v := nI 2) dL_law_727 (by decide) ?_
  refine mv_iadd dL_law_728 ?_
  refine mv_topI (y := nI (i + 2)) (nI_add i 2) ?_
  refine mv_raN (j := i + 2) dL_law_729 (List.mem_of_getElem? (i := 0) rfl) rfl (by omega) (by omega) rfl ?_
  refine mv_cV2 (ci := 11) dL_law_730 lk_L_law_83 hz0 rfl (Nat.le_of_ble_eq_true rfl) (Nat.le_of_ble_eq_true rfl) K1 ?_
  refine mv_aload_n dL_law_733 rfl ?_
  refine mv_aload_n dL_law_734 rfl ?_
  refine mv_iload_n dL_law_735 rfl ?_
  refine mv_iconst (v := nI 1) dL_law_736 (by decide) ?_
  refine mv_iadd dL_law_737 ?_
  refine mv_topI (y := nI (i + 1)) (nI_add i 1) ?_
  refine mv_raN (j := i + 1) dL_law_738 (List.mem_of_getElem? (i := 0) rfl) rfl (by omega) (by omega) rfl ?_
  refine mv_aload_n dL_law_739 rfl ?_
  refine mv_iload_n dL_law_740 rfl ?_
  refine mv_iconst (v := nI 2) dL_law_741 (by decide) ?_
  refine mv_iadd dL_law_742 ?_
  refine mv_topI (y := nI (i + 2)) (nI_add i 2) ?_
  refine mv_raN (j := i + 2) dL_law_743 (List.mem_of_getElem? (i := 0) rfl) rfl (by omega) (by omega) rfl ?_
  refine mv_cV2 (ci := 12) dL_law_744 lk_L_law_86 hz1 rfl (Nat.le_of_ble_eq_true rfl) (Nat.le_of_ble_eq_true rfl) K2 ?_
  refine mv_icmp_eq (tgt := 1532) dL_law_747 (by decide) (fun _ => ?_) (fun z => absurd rfl z)
  exact kk h2 hI2
set_option maxRecDepth 100000 in
theorem q_Lc16 {ev : mv_E} {h : mv_H} (hE : q_E ev) (hI : q_I h) (hL : ev.1 ≤ 4608) {i : Nat} (hi : i + 9 ≤ ev.1) {Q : Option Value → mv_H → Prop} (kk : ∀ h2, q_I h2 → mv_g ev mL_law 1532 [.ref 1000000, .ref 0, .ref 52, .int (nI i)] [] h2 Q) : mv_g ev mL_law 752 [.ref 1000000, .ref 0, .ref 52, .int (nI i)] [] h Q := by
  obtain ⟨fs0, hz0⟩ := q_I0 hI
  obtain ⟨r, h1, h2, K1, K2, ⟨fs1, hz1⟩, hI2⟩ := s_rate (ev := ev) hI (ev.2.1 (i + 1)) (ev.2.1 (i + 2))
  refine mv_aload_n dL_law_752 rfl ?_
  refine mv_aload_n dL_law_753 rfl ?_
  refine mv_iload_n dL_law_754 rfl ?_
  refine mv_iconst (v := nI 1) dL_law_755 (by decide) ?_
  refine mv_iadd dL_law_756 ?_
  refine mv_topI (y := nI (i + 1)) (nI_add i 1) ?_
  refine mv_raN (j := i + 1) dL_law_757 (List.mem_of_getElem? (i := 0) rfl) rfl (by omega) (by omega) rfl ?_
  refine mv_aload_n dL_law_758 rfl ?_
  refine mv_iload_n dL_law_759 rfl ?_
  refine mv_iconst (v := nI 2) dL_law_760 (by decide) ?_
  refine mv_iadd dL_law_761 ?_
  refine mv_topI (y := nI (i + 2)) (nI_add i 2) ?_
  refine mv_raN (j := i + 2) dL_law_762 (List.mem_of_getElem? (i := 0) rfl) rfl (by omega) (by omega) rfl ?_
  refine mv_cV2 (ci := 11) dL_law_763 lk_L_law_87 hz0 rfl (Nat.le_of_ble_eq_true rfl) (Nat.le_of_ble_eq_true rfl) K1 ?_
  refine mv_aload_n dL_law_766 rfl ?_
  refine mv_aload_n dL_law_767 rfl ?_
  refine mv_iload_n dL_law_768 rfl ?_
  refine mv_iconst (v := nI 1) dL_law_769 (by decide) ?_
  refine mv_iadd dL_law_770 ?_
  refine mv_topI (y := nI (i + 1)) (nI_add i 1) ?_
  refine mv_raN (j := i + 1) dL_law_771 (List.mem_of_getElem? (i := 0) rfl) rfl (by omega) (by omega) rfl ?_
  refine mv_aload_n dL_law_772 rfl ?_
  refine mv_iload_n dL_law_773 rfl ?_
  refine mv_iconst (v := nI 2) dL_law_774 (by decide) ?_
  refine mv_iadd dL_law_775 ?_
  refine mv_topI (y := nI (i + 2)) (nI_add i 2) ?_
  refine mv_raN (j := i + 2) dL_law_776 (List.mem_of_getElem? (i := 0) rfl) rfl (by omega) (by omega) rfl ?_
  refine mv_cV2 (ci := 12) dL_law_777 lk_L_law_90 hz1 rfl (Nat.le_of_ble_eq_true rfl) (Nat.le_of_ble_eq_true rfl) K2 ?_
  refine mv_icmp_eq (tgt := 1532) dL_law_780 (by decide) (fun _ => ?_) (fun z => absurd rfl z)
  exact kk h2 hI2
set_option maxRecDepth 100000 in
theorem q_Lc17 {ev : mv_E} {h : mv_H} (hE : q_E ev) (hI : q_I h) (hL : ev.1 ≤ 4608) {i : Nat} (hi : i + 9 ≤ ev.1) {Q : Option Value → mv_H → Prop} (kk : ∀ h2, q_I h2 → mv_g ev mL_law 1532 [.ref 1000000, .ref 0, .ref 52, .int (nI i)] [] h2 Q) : mv_g ev mL_law 785 [.ref 1000000, .ref 0, .ref 52, .int (nI i)] [] h Q := by
  obtain ⟨fs0, hz0⟩ := q_I0 hI
  obtain ⟨r, h1, h2, K1, K2, ⟨fs1, hz1⟩, hI2⟩ := s_window (ev := ev) hI (ev.2.1 (i + 1)) (ev.2.1 (i + 2)) (ev.2.1 (i + 3)) (ev.2.1 (i + 4))
  refine mv_aload_n dL_law_785 rfl ?_
  refine mv_aload_n dL_law_786 rfl ?_
  refine mv_iload_n dL_law_787 rfl ?_
  refine mv_iconst (v := nI 1) dL_law_788 (by decide) ?_
  refine mv_iadd dL_law_789 ?_
  refine mv_topI (y := nI (i + 1)) (nI_add i 1) ?_
  refine mv_raN (j := i + 1) dL_law_790 (List.mem_of_getElem? (i := 0) rfl) rfl (by omega) (by omega) rfl ?_
  refine mv_aload_n dL_law_791 rfl ?_
  refine mv_iload_n dL_law_792 rfl ?_
  refine mv_iconst (v := nI 2) dL_law_793 (by decide) ?_
  refine mv_iadd dL_law_794 ?_
  refine mv_topI (y := nI (i + 2)) (nI_add i 2) ?_
  refine mv_raN (j := i + 2) dL_law_795 (List.mem_of_getElem? (i := 0) rfl) rfl (by omega) (by omega) rfl ?_
  refine mv_aload_n dL_law_796 rfl ?_
  refine mv_iload_n dL_law_797 rfl ?_
  refine mv_iconst (v := nI 3) dL_law_798 (by decide) ?_
  refine mv_iadd dL_law_799 ?_
  refine mv_topI (y := nI (i + 3)) (nI_add i 3) ?_
  refine mv_raN (j := i + 3) dL_law_800 (List.mem_of_getElem? (i := 0) rfl) rfl (by omega) (by omega) rfl ?_
  refine mv_aload_n dL_law_801 rfl ?_
  refine mv_iload_n dL_law_802 rfl ?_
  refine mv_iconst (v := nI 4) dL_law_803 (by decide) ?_
  refine mv_iadd dL_law_804 ?_
  refine mv_topI (y := nI (i + 4)) (nI_add i 4) ?_
  refine mv_raN (j := i + 4) dL_law_805 (List.mem_of_getElem? (i := 0) rfl) rfl (by omega) (by omega) rfl ?_
  refine mv_cV4 (ci := 11) dL_law_806 lk_L_law_91 hz0 rfl (Nat.le_of_ble_eq_true rfl) (Nat.le_of_ble_eq_true rfl) K1 ?_
  refine mv_aload_n dL_law_809 rfl ?_
  refine mv_aload_n dL_law_810 rfl ?_
  refine mv_iload_n dL_law_811 rfl ?_
  refine mv_iconst (v := nI 1) dL_law_812 (by decide) ?_
  refine mv_iadd dL_law_813 ?_
  refine mv_topI (y := nI (i + 1)) (nI_add i 1) ?_
  refine mv_raN (j := i + 1) dL_law_814 (List.mem_of_getElem? (i := 0) rfl) rfl (by omega) (by omega) rfl ?_
  refine mv_aload_n dL_law_815 rfl ?_
  refine mv_iload_n dL_law_816 rfl ?_
  refine mv_iconst (v := nI 2) dL_law_817 (by decide) ?_
  refine mv_iadd dL_law_818 ?_
  refine mv_topI (y := nI (i + 2)) (nI_add i 2) ?_
  refine mv_raN (j := i + 2) dL_law_819 (List.mem_of_getElem? (i := 0) rfl) rfl (by omega) (by omega) rfl ?_
  refine mv_aload_n dL_law_820 rfl ?_
  refine mv_iload_n dL_law_821 rfl ?_
  refine mv_iconst (v := nI 3) dL_law_822 (by decide) ?_
  refine mv_iadd dL_law_823 ?_
  refine mv_topI (y := nI (i + 3)) (nI_add i 3) ?_
  refine mv_raN (j := i + 3) dL_law_824 (List.mem_of_getElem? (i := 0) rfl) rfl (by omega) (by omega) rfl ?_
  refine mv_aload_n dL_law_825 rfl ?_
  refine mv_iload_n dL_law_826 rfl ?_
  refine mv_iconst (v := nI 4) dL_law_827 (by decide) ?_
  refine mv_iadd dL_law_828 ?_
  refine mv_topI (y := nI (i + 4)) (nI_add i 4) ?_
  refine mv_raN (j := i + 4) dL_law_829 (List.mem_of_getElem? (i := 0) rfl) rfl (by omega) (by omega) rfl ?_
  refine mv_cV4 (ci := 12) dL_law_830 lk_L_law_94 hz1 rfl (Nat.le_of_ble_eq_true rfl) (Nat.le_of_ble_eq_true rfl) K2 ?_
  refine mv_icmp_eq (tgt := 1532) dL_law_833 (by decide) (fun _ => ?_) (fun z => absurd rfl z)
  exact kk h2 hI2
set_option maxRecDepth 100000 in
theorem q_Lc18 {ev : mv_E} {h : mv_H} (hE : q_E ev) (hI : q_I h) (hL : ev.1 ≤ 4608) {i : Nat} (hi : i + 9 ≤ ev.1) {Q : Option Value → mv_H → Prop} (kk : ∀ h2, q_I h2 → mv_g ev mL_law 1532 [.ref 1000000, .ref 0, .ref 52, .int (nI i)] [] h2 Q) : mv_g ev mL_law 838 [.ref 1000000, .ref 0, .ref 52, .int (nI i)] [] h Q := by
  obtain ⟨fs0, hz0⟩ := q_I0 hI
  obtain ⟨r, h1, h2, K1, K2, ⟨fs1, hz1⟩, hI2⟩ := s_chance (ev := ev) hI (ev.2.1 (i + 1)) (ev.2.1 (i + 2))
  refine mv_aload_n dL_law_838 rfl ?_
  refine mv_aload_n dL_law_839 rfl ?_
  refine mv_iload_n dL_law_840 rfl ?_
  refine mv_iconst (v := nI 1) dL_law_841 (by decide) ?_
  refine mv_iadd dL_law_842 ?_
  refine mv_topI (y := nI (i + 1)) (nI_add i 1) ?_
  refine mv_raN (j := i + 1) dL_law_843 (List.mem_of_getElem? (i := 0) rfl) rfl (by omega) (by omega) rfl ?_
  refine mv_aload_n dL_law_844 rfl ?_
  refine mv_iload_n dL_law_845 rfl ?_
  refine mv_iconst (v := nI 2) dL_law_846 (by decide) ?_
  refine mv_iadd dL_law_847 ?_
  refine mv_topI (y := nI (i + 2)) (nI_add i 2) ?_
  refine mv_raN (j := i + 2) dL_law_848 (List.mem_of_getElem? (i := 0) rfl) rfl (by omega) (by omega) rfl ?_
  refine mv_cV2 (ci := 11) dL_law_849 lk_L_law_95 hz0 rfl (Nat.le_of_ble_eq_true rfl) (Nat.le_of_ble_eq_true rfl) K1 ?_
  refine mv_aload_n dL_law_852 rfl ?_
  refine mv_aload_n dL_law_853 rfl ?_
  refine mv_iload_n dL_law_854 rfl ?_
  refine mv_iconst (v := nI 1) dL_law_855 (by decide) ?_
  refine mv_iadd dL_law_856 ?_
  refine mv_topI (y := nI (i + 1)) (nI_add i 1) ?_
  refine mv_raN (j := i + 1) dL_law_857 (List.mem_of_getElem? (i := 0) rfl) rfl (by omega) (by omega) rfl ?_
  refine mv_aload_n dL_law_858 rfl ?_
  refine mv_iload_n dL_law_859 rfl ?_
  refine mv_iconst (v := nI 2) dL_law_860 (by decide) ?_
  refine mv_iadd dL_law_861 ?_
  refine mv_topI (y := nI (i + 2)) (nI_add i 2) ?_
  refine mv_raN (j := i + 2) dL_law_862 (List.mem_of_getElem? (i := 0) rfl) rfl (by omega) (by omega) rfl ?_
  refine mv_cV2 (ci := 12) dL_law_863 lk_L_law_98 hz1 rfl (Nat.le_of_ble_eq_true rfl) (Nat.le_of_ble_eq_true rfl) K2 ?_
  refine mv_icmp_eq (tgt := 1532) dL_law_866 (by decide) (fun _ => ?_) (fun z => absurd rfl z)
  exact kk h2 hI2
set_option maxRecDepth 100000 in
theorem q_Lc19 {ev : mv_E} {h : mv_H} (hE : q_E ev) (hI : q_I h) (hL : ev.1 ≤ 4608) {i : Nat} (hi : i + 9 ≤ ev.1) {Q : Option Value → mv_H → Prop} (kk : ∀ h2, q_I h2 → mv_g ev mL_law 1532 [.ref 1000000, .ref 0, .ref 52, .int (nI i)] [] h2 Q) : mv_g ev mL_law 871 [.ref 1000000, .ref 0, .ref 52, .int (nI i)] [] h Q := by
  obtain ⟨fs0, hz0⟩ := q_I0 hI
  obtain ⟨r, h1, h2, K1, K2, ⟨fs1, hz1⟩, hI2⟩ := s_table (ev := ev) hI (ev.2.1 (i + 1)) (ev.2.1 (i + 2)) (ev.2.1 (i + 3)) (ev.2.1 (i + 4)) (ev.2.1 (i + 5))
  refine mv_aload_n dL_law_871 rfl ?_
  refine mv_aload_n dL_law_872 rfl ?_
  refine mv_iload_n dL_law_873 rfl ?_
  refine mv_iconst (v := nI 1) dL_law_874 (by decide) ?_
  refine mv_iadd dL_law_875 ?_
  refine mv_topI (y := nI (i + 1)) (nI_add i 1) ?_
  refine mv_raN (j := i + 1) dL_law_876 (List.mem_of_getElem? (i := 0) rfl) rfl (by omega) (by omega) rfl ?_
  refine mv_aload_n dL_law_877 rfl ?_
  refine mv_iload_n dL_law_878 rfl ?_
  refine mv_iconst (v := nI 2) dL_law_879 (by decide) ?_
  refine mv_iadd dL_law_880 ?_
  refine mv_topI (y := nI (i + 2)) (nI_add i 2) ?_
  refine mv_raN (j := i + 2) dL_law_881 (List.mem_of_getElem? (i := 0) rfl) rfl (by omega) (by omega) rfl ?_
  refine mv_aload_n dL_law_882 rfl ?_
  refine mv_iload_n dL_law_883 rfl ?_
  refine mv_iconst (v := nI 3) dL_law_884 (by decide) ?_
  refine mv_iadd dL_law_885 ?_
  refine mv_topI (y := nI (i + 3)) (nI_add i 3) ?_
  refine mv_raN (j := i + 3) dL_law_886 (List.mem_of_getElem? (i := 0) rfl) rfl (by omega) (by omega) rfl ?_
  refine mv_aload_n dL_law_887 rfl ?_
  refine mv_iload_n dL_law_888 rfl ?_
  refine mv_iconst (v := nI 4) dL_law_889 (by decide) ?_
  refine mv_iadd dL_law_890 ?_
  refine mv_topI (y := nI (i + 4)) (nI_add i 4) ?_
  refine mv_raN (j := i + 4) dL_law_891 (List.mem_of_getElem? (i := 0) rfl) rfl (by omega) (by omega) rfl ?_
  refine mv_aload_n dL_law_892 rfl ?_
  refine mv_iload_n dL_law_893 rfl ?_
  refine mv_iconst (v := nI 5) dL_law_894 (by decide) ?_
  refine mv_iadd dL_law_895 ?_
  refine mv_topI (y := nI (i + 5)) (nI_add i 5) ?_
  refine mv_raN (j := i + 5) dL_law_896 (List.mem_of_getElem? (i := 0) rfl) rfl (by omega) (by omega) rfl ?_
  refine mv_cV5 (ci := 11) dL_law_897 lk_L_law_99 hz0 rfl (Nat.le_of_ble_eq_true rfl) (Nat.le_of_ble_eq_true rfl) K1 ?_
  refine mv_aload_n dL_law_900 rfl ?_
  refine mv_aload_n dL_law_901 rfl ?_
  refine mv_iload_n dL_law_902 rfl ?_
  refine mv_iconst (v := nI 1) dL_law_903 (by decide) ?_
  refine mv_iadd dL_law_904 ?_
  refine mv_topI (y := nI (i + 1)) (nI_add i 1) ?_
  refine mv_raN (j := i + 1) dL_law_905 (List.mem_of_getElem? (i := 0) rfl) rfl (by omega) (by omega) rfl ?_
  refine mv_aload_n dL_law_906 rfl ?_
  refine mv_iload_n dL_law_907 rfl ?_
  refine mv_iconst (v := nI 2) dL_law_908 (by decide) ?_
  refine mv_iadd dL_law_909 ?_
  refine mv_topI (y := nI (i + 2)) (nI_add i 2) ?_
  refine mv_raN (j := i + 2) dL_law_910 (List.mem_of_getElem? (i := 0) rfl) rfl (by omega) (by omega) rfl ?_
  refine mv_aload_n dL_law_911 rfl ?_
  refine mv_iload_n dL_law_912 rfl ?_
  refine mv_iconst (v := nI 3) dL_law_913 (by decide) ?_
  refine mv_iadd dL_law_914 ?_
  refine mv_topI (y := nI (i + 3)) (nI_add i 3) ?_
  refine mv_raN (j := i + 3) dL_law_915 (List.mem_of_getElem? (i := 0) rfl) rfl (by omega) (by omega) rfl ?_
  refine mv_aload_n dL_law_916 rfl ?_
  refine mv_iload_n dL_law_917 rfl ?_
  refine mv_iconst (v := nI 4) dL_law_918 (by decide) ?_
  refine mv_iadd dL_law_919 ?_
  refine mv_topI (y := nI (i + 4)) (nI_add i 4) ?_
  refine mv_raN (j := i + 4) dL_law_920 (List.mem_of_getElem? (i := 0) rfl) rfl (by omega) (by omega) rfl ?_
  refine mv_aload_n dL_law_921 rfl ?_
  refine mv_iload_n dL_law_922 rfl ?_
  refine mv_iconst (v := nI 5) dL_law_923 (by decide) ?_
  refine mv_iadd dL_law_924 ?_
  refine mv_topI (y := nI (i + 5)) (nI_add i 5) ?_
  refine mv_raN (j := i + 5) dL_law_925 (List.mem_of_getElem? (i := 0) rfl) rfl (by omega) (by omega) rfl ?_
  refine mv_cV5 (ci := 12) dL_law_926 lk_L_law_103 hz1 rfl (Nat.le_of_ble_eq_true rfl) (Nat.le_of_ble_eq_true rfl) K2 ?_
  refine mv_icmp_eq (tgt := 1532) dL_law_929 (by decide) (fun _ => ?_) (fun z => absurd rfl z)
  exact kk h2 hI2
set_option maxRecDepth 100000 in
theorem q_Lc20 {ev : mv_E} {h : mv_H} (hE : q_E ev) (hI : q_I h) (hL : ev.1 ≤ 4608) {i : Nat} (hi : i + 9 ≤ ev.1) {Q : Option Value → mv_H → Prop} (kk : ∀ h2, q_I h2 → mv_g ev mL_law 1532 [.ref 1000000, .ref 0, .ref 52, .int (nI i)] [] h2 Q) : mv_g ev mL_law 934 [.ref 1000000, .ref 0, .ref 52, .int (nI i)] [] h Q := by
  obtain ⟨fs0, hz0⟩ := q_I0 hI
  obtain ⟨r, h1, h2, K1, K2, ⟨fs1, hz1⟩, hI2⟩ := s_story (ev := ev) hI (ev.2.1 (i + 1)) (ev.2.1 (i + 2)) (ev.2.1 (i + 3))
  refine mv_aload_n dL_law_934 rfl ?_
  refine mv_aload_n dL_law_935 rfl ?_
  refine mv_iload_n dL_law_936 rfl ?_
  refine mv_iconst (v := nI 1) dL_law_937 (by decide) ?_
  refine mv_iadd dL_law_938 ?_
  refine mv_topI (y := nI (i + 1)) (nI_add i 1) ?_
  refine mv_raN (j := i + 1) dL_law_939 (List.mem_of_getElem? (i := 0) rfl) rfl (by omega) (by omega) rfl ?_
  refine mv_aload_n dL_law_940 rfl ?_
  refine mv_iload_n dL_law_941 rfl ?_
  refine mv_iconst (v := nI 2) dL_law_942 (by decide) ?_
  refine mv_iadd dL_law_943 ?_
  refine mv_topI (y := nI (i + 2)) (nI_add i 2) ?_
  refine mv_raN (j := i + 2) dL_law_944 (List.mem_of_getElem? (i := 0) rfl) rfl (by omega) (by omega) rfl ?_
  refine mv_aload_n dL_law_945 rfl ?_
  refine mv_iload_n dL_law_946 rfl ?_
  refine mv_iconst (v := nI 3) dL_law_947 (by decide) ?_
  refine mv_iadd dL_law_948 ?_
  refine mv_topI (y := nI (i + 3)) (nI_add i 3) ?_
  refine mv_raN (j := i + 3) dL_law_949 (List.mem_of_getElem? (i := 0) rfl) rfl (by omega) (by omega) rfl ?_
  refine mv_cV3 (ci := 11) dL_law_950 lk_L_law_104 hz0 rfl (Nat.le_of_ble_eq_true rfl) (Nat.le_of_ble_eq_true rfl) K1 ?_
  refine mv_aload_n dL_law_953 rfl ?_
  refine mv_aload_n dL_law_954 rfl ?_
  refine mv_iload_n dL_law_955 rfl ?_
  refine mv_iconst (v := nI 1) dL_law_956 (by decide) ?_
  refine mv_iadd dL_law_957 ?_
  refine mv_topI (y := nI (i + 1)) (nI_add i 1) ?_
  refine mv_raN (j := i + 1) dL_law_958 (List.mem_of_getElem? (i := 0) rfl) rfl (by omega) (by omega) rfl ?_
  refine mv_aload_n dL_law_959 rfl ?_
  refine mv_iload_n dL_law_960 rfl ?_
  refine mv_iconst (v := nI 2) dL_law_961 (by decide) ?_
  refine mv_iadd dL_law_962 ?_
  refine mv_topI (y := nI (i + 2)) (nI_add i 2) ?_
  refine mv_raN (j := i + 2) dL_law_963 (List.mem_of_getElem? (i := 0) rfl) rfl (by omega) (by omega) rfl ?_
  refine mv_aload_n dL_law_964 rfl ?_
  refine mv_iload_n dL_law_965 rfl ?_
  refine mv_iconst (v := nI 3) dL_law_966 (by decide) ?_
  refine mv_iadd dL_law_967 ?_
  refine mv_topI (y := nI (i + 3)) (nI_add i 3) ?_
  refine mv_raN (j := i + 3) dL_law_968 (List.mem_of_getElem? (i := 0) rfl) rfl (by omega) (by omega) rfl ?_
  refine mv_cV3 (ci := 12) dL_law_969 lk_L_law_107 hz1 rfl (Nat.le_of_ble_eq_true rfl) (Nat.le_of_ble_eq_true rfl) K2 ?_
  refine mv_icmp_eq (tgt := 1532) dL_law_972 (by decide) (fun _ => ?_) (fun z => absurd rfl z)
  exact kk h2 hI2
set_option maxRecDepth 100000 in
theorem q_Lc21 {ev : mv_E} {h : mv_H} (hE : q_E ev) (hI : q_I h) (hL : ev.1 ≤ 4608) {i : Nat} (hi : i + 9 ≤ ev.1) {Q : Option Value → mv_H → Prop} (kk : ∀ h2, q_I h2 → mv_g ev mL_law 1532 [.ref 1000000, .ref 0, .ref 52, .int (nI i)] [] h2 Q) : mv_g ev mL_law 977 [.ref 1000000, .ref 0, .ref 52, .int (nI i)] [] h Q := by
  obtain ⟨fs0, hz0⟩ := q_I0 hI
  obtain ⟨r, h1, h2, K1, K2, ⟨fs1, hz1⟩, hI2⟩ := s_claim (ev := ev) hI (ev.2.1 (i + 1)) (ev.2.1 (i + 2)) (ev.2.1 (i + 3)) (ev.2.1 (i + 4)) (ev.2.1 (i + 5)) (ev.2.1 (i + 6)) (ev.2.1 (i + 7))
  refine mv_aload_n dL_law_977 rfl ?_
  refine mv_aload_n dL_law_978 rfl ?_
  refine mv_iload_n dL_law_979 rfl ?_
  refine mv_iconst (v := nI 1) dL_law_980 (by decide) ?_
  refine mv_iadd dL_law_981 ?_
  refine mv_topI (y := nI (i + 1)) (nI_add i 1) ?_
  refine mv_raN (j := i + 1) dL_law_982 (List.mem_of_getElem? (i := 0) rfl) rfl (by omega) (by omega) rfl ?_
  refine mv_aload_n dL_law_983 rfl ?_
  refine mv_iload_n dL_law_984 rfl ?_
  refine mv_iconst (v := nI 2) dL_law_985 (by decide) ?_
  refine mv_iadd dL_law_986 ?_
  refine mv_topI (y := nI (i + 2)) (nI_add i 2) ?_
  refine mv_raN (j := i + 2) dL_law_987 (List.mem_of_getElem? (i := 0) rfl) rfl (by omega) (by omega) rfl ?_
  refine mv_aload_n dL_law_988 rfl ?_
  refine mv_iload_n dL_law_989 rfl ?_
  refine mv_iconst (v := nI 3) dL_law_990 (by decide) ?_
  refine mv_iadd dL_law_991 ?_
  refine mv_topI (y := nI (i + 3)) (nI_add i 3) ?_
  refine mv_raN (j := i + 3) dL_law_992 (List.mem_of_getElem? (i := 0) rfl) rfl (by omega) (by omega) rfl ?_
  refine mv_aload_n dL_law_993 rfl ?_
  refine mv_iload_n dL_law_994 rfl ?_
  refine mv_iconst (v := nI 4) dL_law_995 (by decide) ?_
  refine mv_iadd dL_law_996 ?_
  refine mv_topI (y := nI (i + 4)) (nI_add i 4) ?_
  refine mv_raN (j := i + 4) dL_law_997 (List.mem_of_getElem? (i := 0) rfl) rfl (by omega) (by omega) rfl ?_
  refine mv_aload_n dL_law_998 rfl ?_
  refine mv_iload_n dL_law_999 rfl ?_
  refine mv_iconst (v := nI 5) dL_law_1000 (by decide) ?_
  refine mv_iadd dL_law_1001 ?_
  refine mv_topI (y := nI (i + 5)) (nI_add i 5) ?_
  refine mv_raN (j := i + 5) dL_law_1002 (List.mem_of_getElem? (i := 0) rfl) rfl (by omega) (by omega) rfl ?_
  refine mv_aload_n dL_law_1003 rfl ?_
  refine mv_iload_n dL_law_1004 rfl ?_
  refine mv_bipush (v := nI 6) dL_law_1005 (by decide) ?_
  refine mv_iadd dL_law_1007 ?_
  refine mv_topI (y := nI (i + 6)) (nI_add i 6) ?_
  refine mv_raN (j := i + 6) dL_law_1008 (List.mem_of_getElem? (i := 0) rfl) rfl (by omega) (by omega) rfl ?_
  refine mv_aload_n dL_law_1009 rfl ?_
  refine mv_iload_n dL_law_1010 rfl ?_
  refine mv_bipush (v := nI 7) dL_law_1011 (by decide) ?_
  refine mv_iadd dL_law_1013 ?_
  refine mv_topI (y := nI (i + 7)) (nI_add i 7) ?_
  refine mv_raN (j := i + 7) dL_law_1014 (List.mem_of_getElem? (i := 0) rfl) rfl (by omega) (by omega) rfl ?_
  refine mv_cV7 (ci := 11) dL_law_1015 lk_L_law_108 hz0 rfl (Nat.le_of_ble_eq_true rfl) (Nat.le_of_ble_eq_true rfl) K1 ?_
  refine mv_aload_n dL_law_1018 rfl ?_
  refine mv_aload_n dL_law_1019 rfl ?_
  refine mv_iload_n dL_law_1020 rfl ?_
  refine mv_iconst (v := nI 1) dL_law_1021 (by decide) ?_
  refine mv_iadd dL_law_1022 ?_
  refine mv_topI (y := nI (i + 1)) (nI_add i 1) ?_
  refine mv_raN (j := i + 1) dL_law_1023 (List.mem_of_getElem? (i := 0) rfl) rfl (by omega) (by omega) rfl ?_
  refine mv_aload_n dL_law_1024 rfl ?_
  refine mv_iload_n dL_law_1025 rfl ?_
  refine mv_iconst (v := nI 2) dL_law_1026 (by decide) ?_
  refine mv_iadd dL_law_1027 ?_
  refine mv_topI (y := nI (i + 2)) (nI_add i 2) ?_
  refine mv_raN (j := i + 2) dL_law_1028 (List.mem_of_getElem? (i := 0) rfl) rfl (by omega) (by omega) rfl ?_
  refine mv_aload_n dL_law_1029 rfl ?_
  refine mv_iload_n dL_law_1030 rfl ?_
  refine mv_iconst (v := nI 3) dL_law_1031 (by decide) ?_
  refine mv_iadd dL_law_1032 ?_
  refine mv_topI (y := nI (i + 3)) (nI_add i 3) ?_
  refine mv_raN (j := i + 3) dL_law_1033 (List.mem_of_getElem? (i := 0) rfl) rfl (by omega) (by omega) rfl ?_
  refine mv_aload_n dL_law_1034 rfl ?_
  refine mv_iload_n dL_law_1035 rfl ?_
  refine mv_iconst (v := nI 4) dL_law_1036 (by decide) ?_
  refine mv_iadd dL_law_1037 ?_
  refine mv_topI (y := nI (i + 4)) (nI_add i 4) ?_
  refine mv_raN (j := i + 4) dL_law_1038 (List.mem_of_getElem? (i := 0) rfl) rfl (by omega) (by omega) rfl ?_
  refine mv_aload_n dL_law_1039 rfl ?_
  refine mv_iload_n dL_law_1040 rfl ?_
  refine mv_iconst (v := nI 5) dL_law_1041 (by decide) ?_
  refine mv_iadd dL_law_1042 ?_
  refine mv_topI (y := nI (i + 5)) (nI_add i 5) ?_
  refine mv_raN (j := i + 5) dL_law_1043 (List.mem_of_getElem? (i := 0) rfl) rfl (by omega) (by omega) rfl ?_
  refine mv_aload_n dL_law_1044 rfl ?_
  refine mv_iload_n dL_law_1045 rfl ?_
  refine mv_bipush (v := nI 6) dL_law_1046 (by decide) ?_
  refine mv_iadd dL_law_1048 ?_
  refine mv_topI (y := nI (i + 6)) (nI_add i 6) ?_
  refine mv_raN (j := i + 6) dL_law_1049 (List.mem_of_getElem? (i := 0) rfl) rfl (by omega) (by omega) rfl ?_
  refine mv_aload_n dL_law_1050 rfl ?_
  refine mv_iload_n dL_law_1051 rfl ?_
  refine mv_bipush (v := nI 7) dL_law_1052 (by decide) ?_
  refine mv_iadd dL_law_1054 ?_
  refine mv_topI (y := nI (i + 7)) (nI_add i 7) ?_
  refine mv_raN (j := i + 7) dL_law_1055 (List.mem_of_getElem? (i := 0) rfl) rfl (by omega) (by omega) rfl ?_
  refine mv_cV7 (ci := 12) dL_law_1056 lk_L_law_112 hz1 rfl (Nat.le_of_ble_eq_true rfl) (Nat.le_of_ble_eq_true rfl) K2 ?_
  refine mv_icmp_eq (tgt := 1532) dL_law_1059 (by decide) (fun _ => ?_) (fun z => absurd rfl z)
  exact kk h2 hI2
set_option maxRecDepth 100000 in
theorem q_Lc22 {ev : mv_E} {h : mv_H} (hE : q_E ev) (hI : q_I h) (hL : ev.1 ≤ 4608) {i : Nat} (hi : i + 9 ≤ ev.1) {Q : Option Value → mv_H → Prop} (kk : ∀ h2, q_I h2 → mv_g ev mL_law 1532 [.ref 1000000, .ref 0, .ref 52, .int (nI i)] [] h2 Q) : mv_g ev mL_law 1064 [.ref 1000000, .ref 0, .ref 52, .int (nI i)] [] h Q := by
  obtain ⟨fs0, hz0⟩ := q_I0 hI
  obtain ⟨r, h1, h2, K1, K2, ⟨fs1, hz1⟩, hI2⟩ := s_score (ev := ev) hI (ev.2.1 (i + 1)) (ev.2.1 (i + 2))
  refine mv_aload_n dL_law_1064 rfl ?_
  refine mv_aload_n dL_law_1065 rfl ?_
  refine mv_iload_n dL_law_1066 rfl ?_
  refine mv_iconst (v := nI 1) dL_law_1067 (by decide) ?_
  refine mv_iadd dL_law_1068 ?_
  refine mv_topI (y := nI (i + 1)) (nI_add i 1) ?_
  refine mv_raN (j := i + 1) dL_law_1069 (List.mem_of_getElem? (i := 0) rfl) rfl (by omega) (by omega) rfl ?_
  refine mv_aload_n dL_law_1070 rfl ?_
  refine mv_iload_n dL_law_1071 rfl ?_
  refine mv_iconst (v := nI 2) dL_law_1072 (by decide) ?_
  refine mv_iadd dL_law_1073 ?_
  refine mv_topI (y := nI (i + 2)) (nI_add i 2) ?_
  refine mv_raN (j := i + 2) dL_law_1074 (List.mem_of_getElem? (i := 0) rfl) rfl (by omega) (by omega) rfl ?_
  refine mv_cV2 (ci := 11) dL_law_1075 lk_L_law_113 hz0 rfl (Nat.le_of_ble_eq_true rfl) (Nat.le_of_ble_eq_true rfl) K1 ?_
  refine mv_aload_n dL_law_1078 rfl ?_
  refine mv_aload_n dL_law_1079 rfl ?_
  refine mv_iload_n dL_law_1080 rfl ?_
  refine mv_iconst (v := nI 1) dL_law_1081 (by decide) ?_
  refine mv_iadd dL_law_1082 ?_
  refine mv_topI (y := nI (i + 1)) (nI_add i 1) ?_
  refine mv_raN (j := i + 1) dL_law_1083 (List.mem_of_getElem? (i := 0) rfl) rfl (by omega) (by omega) rfl ?_
  refine mv_aload_n dL_law_1084 rfl ?_
  refine mv_iload_n dL_law_1085 rfl ?_
  refine mv_iconst (v := nI 2) dL_law_1086 (by decide) ?_
  refine mv_iadd dL_law_1087 ?_
  refine mv_topI (y := nI (i + 2)) (nI_add i 2) ?_
  refine mv_raN (j := i + 2) dL_law_1088 (List.mem_of_getElem? (i := 0) rfl) rfl (by omega) (by omega) rfl ?_
  refine mv_cV2 (ci := 12) dL_law_1089 lk_L_law_116 hz1 rfl (Nat.le_of_ble_eq_true rfl) (Nat.le_of_ble_eq_true rfl) K2 ?_
  refine mv_icmp_eq (tgt := 1532) dL_law_1092 (by decide) (fun _ => ?_) (fun z => absurd rfl z)
  exact kk h2 hI2
set_option maxRecDepth 100000 in
theorem q_Lc23 {ev : mv_E} {h : mv_H} (hE : q_E ev) (hI : q_I h) (hL : ev.1 ≤ 4608) {i : Nat} (hi : i + 9 ≤ ev.1) {Q : Option Value → mv_H → Prop} (kk : ∀ h2, q_I h2 → mv_g ev mL_law 1532 [.ref 1000000, .ref 0, .ref 52, .int (nI i)] [] h2 Q) : mv_g ev mL_law 1097 [.ref 1000000, .ref 0, .ref 52, .int (nI i)] [] h Q := by
  obtain ⟨fs0, hz0⟩ := q_I0 hI
  obtain ⟨r, h1, h2, K1, K2, ⟨fs1, hz1⟩, hI2⟩ := s_scores (ev := ev) hI 
  refine mv_aload_n dL_law_1097 rfl ?_
  refine mv_cV0 (ci := 11) dL_law_1098 lk_L_law_117 hz0 rfl (Nat.le_of_ble_eq_true rfl) (Nat.le_of_ble_eq_true rfl) K1 ?_
  refine mv_aload_n dL_law_1101 rfl ?_
  refine mv_cV0 (ci := 12) dL_law_1102 lk_L_law_120 hz1 rfl (Nat.le_of_ble_eq_true rfl) (Nat.le_of_ble_eq_true rfl) K2 ?_
  refine mv_icmp_eq (tgt := 1532) dL_law_1105 (by decide) (fun _ => ?_) (fun z => absurd rfl z)
  exact kk h2 hI2
set_option maxRecDepth 100000 in
theorem q_Lc24 {ev : mv_E} {h : mv_H} (hE : q_E ev) (hI : q_I h) (hL : ev.1 ≤ 4608) {i : Nat} (hi : i + 9 ≤ ev.1) {Q : Option Value → mv_H → Prop} (kk : ∀ h2, q_I h2 → mv_g ev mL_law 1532 [.ref 1000000, .ref 0, .ref 52, .int (nI i)] [] h2 Q) : mv_g ev mL_law 1110 [.ref 1000000, .ref 0, .ref 52, .int (nI i)] [] h Q := by
  obtain ⟨fs0, hz0⟩ := q_I0 hI
  obtain ⟨r, h1, h2, K1, K2, ⟨fs1, hz1⟩, hI2⟩ := s_town (ev := ev) hI (ev.2.1 (i + 1)) (ev.2.1 (i + 2)) (ev.2.1 (i + 3)) (ev.2.1 (i + 4)) (ev.2.1 (i + 5)) (ev.2.1 (i + 6)) (ev.2.1 (i + 7)) (ev.2.1 (i + 8))
  refine mv_aload_n dL_law_1110 rfl ?_
  refine mv_aload_n dL_law_1111 rfl ?_
  refine mv_iload_n dL_law_1112 rfl ?_
  refine mv_iconst (v := nI 1) dL_law_1113 (by decide) ?_
  refine mv_iadd dL_law_1114 ?_
  refine mv_topI (y := nI (i + 1)) (nI_add i 1) ?_
  refine mv_raN (j := i + 1) dL_law_1115 (List.mem_of_getElem? (i := 0) rfl) rfl (by omega) (by omega) rfl ?_
  refine mv_aload_n dL_law_1116 rfl ?_
  refine mv_iload_n dL_law_1117 rfl ?_
  refine mv_iconst (v := nI 2) dL_law_1118 (by decide) ?_
  refine mv_iadd dL_law_1119 ?_
  refine mv_topI (y := nI (i + 2)) (nI_add i 2) ?_
  refine mv_raN (j := i + 2) dL_law_1120 (List.mem_of_getElem? (i := 0) rfl) rfl (by omega) (by omega) rfl ?_
  refine mv_aload_n dL_law_1121 rfl ?_
  refine mv_iload_n dL_law_1122 rfl ?_
  refine mv_iconst (v := nI 3) dL_law_1123 (by decide) ?_
  refine mv_iadd dL_law_1124 ?_
  refine mv_topI (y := nI (i + 3)) (nI_add i 3) ?_
  refine mv_raN (j := i + 3) dL_law_1125 (List.mem_of_getElem? (i := 0) rfl) rfl (by omega) (by omega) rfl ?_
  refine mv_aload_n dL_law_1126 rfl ?_
  refine mv_iload_n dL_law_1127 rfl ?_
  refine mv_iconst (v := nI 4) dL_law_1128 (by decide) ?_
  refine mv_iadd dL_law_1129 ?_
  refine mv_topI (y := nI (i + 4)) (nI_add i 4) ?_
  refine mv_raN (j := i + 4) dL_law_1130 (List.mem_of_getElem? (i := 0) rfl) rfl (by omega) (by omega) rfl ?_
  refine mv_aload_n dL_law_1131 rfl ?_
  refine mv_iload_n dL_law_1132 rfl ?_
  refine mv_iconst (v := nI 5) dL_law_1133 (by decide) ?_
  refine mv_iadd dL_law_1134 ?_
  refine mv_topI (y := nI (i + 5)) (nI_add i 5) ?_
  refine mv_raN (j := i + 5) dL_law_1135 (List.mem_of_getElem? (i := 0) rfl) rfl (by omega) (by omega) rfl ?_
  refine mv_aload_n dL_law_1136 rfl ?_
  refine mv_iload_n dL_law_1137 rfl ?_
  refine mv_bipush (v := nI 6) dL_law_1138 (by decide) ?_
  refine mv_iadd dL_law_1140 ?_
  refine mv_topI (y := nI (i + 6)) (nI_add i 6) ?_
  refine mv_raN (j := i + 6) dL_law_1141 (List.mem_of_getElem? (i := 0) rfl) rfl (by omega) (by omega) rfl ?_
  refine mv_aload_n dL_law_1142 rfl ?_
  refine mv_iload_n dL_law_1143 rfl ?_
  refine mv_bipush (v := nI 7) dL_law_1144 (by decide) ?_
  refine mv_iadd dL_law_1146 ?_
  refine mv_topI (y := nI (i + 7)) (nI_add i 7) ?_
  refine mv_raN (j := i + 7) dL_law_1147 (List.mem_of_getElem? (i := 0) rfl) rfl (by omega) (by omega) rfl ?_
  refine mv_aload_n dL_law_1148 rfl ?_
  refine mv_iload_n dL_law_1149 rfl ?_
  refine mv_bipush (v := nI 8) dL_law_1150 (by decide) ?_
  refine mv_iadd dL_law_1152 ?_
  refine mv_topI (y := nI (i + 8)) (nI_add i 8) ?_
  refine mv_raN (j := i + 8) dL_law_1153 (List.mem_of_getElem? (i := 0) rfl) rfl (by omega) (by omega) rfl ?_
  refine mv_cV8 (ci := 11) dL_law_1154 lk_L_law_121 hz0 rfl (Nat.le_of_ble_eq_true rfl) (Nat.le_of_ble_eq_true rfl) K1 ?_
  refine mv_aload_n dL_law_1157 rfl ?_
  refine mv_aload_n dL_law_1158 rfl ?_
  refine mv_iload_n dL_law_1159 rfl ?_
  refine mv_iconst (v := nI 1) dL_law_1160 (by decide) ?_
  refine mv_iadd dL_law_1161 ?_
  refine mv_topI (y := nI (i + 1)) (nI_add i 1) ?_
  refine mv_raN (j := i + 1) dL_law_1162 (List.mem_of_getElem? (i := 0) rfl) rfl (by omega) (by omega) rfl ?_
  refine mv_aload_n dL_law_1163 rfl ?_
  refine mv_iload_n dL_law_1164 rfl ?_
  refine mv_iconst (v := nI 2) dL_law_1165 (by decide) ?_
  refine mv_iadd dL_law_1166 ?_
  refine mv_topI (y := nI (i + 2)) (nI_add i 2) ?_
  refine mv_raN (j := i + 2) dL_law_1167 (List.mem_of_getElem? (i := 0) rfl) rfl (by omega) (by omega) rfl ?_
  refine mv_aload_n dL_law_1168 rfl ?_
  refine mv_iload_n dL_law_1169 rfl ?_
  refine mv_iconst (v := nI 3) dL_law_1170 (by decide) ?_
  refine mv_iadd dL_law_1171 ?_
  refine mv_topI (y := nI (i + 3)) (nI_add i 3) ?_
  refine mv_raN (j := i + 3) dL_law_1172 (List.mem_of_getElem? (i := 0) rfl) rfl (by omega) (by omega) rfl ?_
  refine mv_aload_n dL_law_1173 rfl ?_
  refine mv_iload_n dL_law_1174 rfl ?_
  refine mv_iconst (v := nI 4) dL_law_1175 (by decide) ?_
  refine mv_iadd dL_law_1176 ?_
  refine mv_topI (y := nI (i + 4)) (nI_add i 4) ?_
  refine mv_raN (j := i + 4) dL_law_1177 (List.mem_of_getElem? (i := 0) rfl) rfl (by omega) (by omega) rfl ?_
  refine mv_aload_n dL_law_1178 rfl ?_
  refine mv_iload_n dL_law_1179 rfl ?_
  refine mv_iconst (v := nI 5) dL_law_1180 (by decide) ?_
  refine mv_iadd dL_law_1181 ?_
  refine mv_topI (y := nI (i + 5)) (nI_add i 5) ?_
  refine mv_raN (j := i + 5) dL_law_1182 (List.mem_of_getElem? (i := 0) rfl) rfl (by omega) (by omega) rfl ?_
  refine mv_aload_n dL_law_1183 rfl ?_
  refine mv_iload_n dL_law_1184 rfl ?_
  refine mv_bipush (v := nI 6) dL_law_1185 (by decide) ?_
  refine mv_iadd dL_law_1187 ?_
  refine mv_topI (y := nI (i + 6)) (nI_add i 6) ?_
  refine mv_raN (j := i + 6) dL_law_1188 (List.mem_of_getElem? (i := 0) rfl) rfl (by omega) (by omega) rfl ?_
  refine mv_aload_n dL_law_1189 rfl ?_
  refine mv_iload_n dL_law_1190 rfl ?_
  refine mv_bipush (v := nI 7) dL_law_1191 (by decide) ?_
  refine mv_iadd dL_law_1193 ?_
  refine mv_topI (y := nI (i + 7)) (nI_add i 7) ?_
  refine mv_raN (j := i + 7) dL_law_1194 (List.mem_of_getElem? (i := 0) rfl) rfl (by omega) (by omega) rfl ?_
  refine mv_aload_n dL_law_1195 rfl ?_
  refine mv_iload_n dL_law_1196 rfl ?_
  refine mv_bipush (v := nI 8) dL_law_1197 (by decide) ?_
  refine mv_iadd dL_law_1199 ?_
  refine mv_topI (y := nI (i + 8)) (nI_add i 8) ?_
  refine mv_raN (j := i + 8) dL_law_1200 (List.mem_of_getElem? (i := 0) rfl) rfl (by omega) (by omega) rfl ?_
  refine mv_cV8 (ci := 12) dL_law_1201 lk_L_law_125 hz1 rfl (Nat.le_of_ble_eq_true rfl) (Nat.le_of_ble_eq_true rfl) K2 ?_
  refine mv_icmp_eq (tgt := 1532) dL_law_1204 (by decide) (fun _ => ?_) (fun z => absurd rfl z)
  exact kk h2 hI2
set_option maxRecDepth 100000 in
theorem q_Lc25 {ev : mv_E} {h : mv_H} (hE : q_E ev) (hI : q_I h) (hL : ev.1 ≤ 4608) {i : Nat} (hi : i + 9 ≤ ev.1) {Q : Option Value → mv_H → Prop} (kk : ∀ h2, q_I h2 → mv_g ev mL_law 1532 [.ref 1000000, .ref 0, .ref 52, .int (nI i)] [] h2 Q) : mv_g ev mL_law 1209 [.ref 1000000, .ref 0, .ref 52, .int (nI i)] [] h Q := by
  obtain ⟨fs0, hz0⟩ := q_I0 hI
  obtain ⟨r, h1, h2, K1, K2, ⟨fs1, hz1⟩, hI2⟩ := s_bestLine (ev := ev) hI (ev.2.1 (i + 1)) (ev.2.1 (i + 2)) (ev.2.1 (i + 3)) (ev.2.1 (i + 4)) (ev.2.1 (i + 5)) (ev.2.1 (i + 6))
  refine mv_aload_n dL_law_1209 rfl ?_
  refine mv_aload_n dL_law_1210 rfl ?_
  refine mv_iload_n dL_law_1211 rfl ?_
  refine mv_iconst (v := nI 1) dL_law_1212 (by decide) ?_
  refine mv_iadd dL_law_1213 ?_
  refine mv_topI (y := nI (i + 1)) (nI_add i 1) ?_
  refine mv_raN (j := i + 1) dL_law_1214 (List.mem_of_getElem? (i := 0) rfl) rfl (by omega) (by omega) rfl ?_
  refine mv_aload_n dL_law_1215 rfl ?_
  refine mv_iload_n dL_law_1216 rfl ?_
  refine mv_iconst (v := nI 2) dL_law_1217 (by decide) ?_
  refine mv_iadd dL_law_1218 ?_
  refine mv_topI (y := nI (i + 2)) (nI_add i 2) ?_
  refine mv_raN (j := i + 2) dL_law_1219 (List.mem_of_getElem? (i := 0) rfl) rfl (by omega) (by omega) rfl ?_
  refine mv_aload_n dL_law_1220 rfl ?_
  refine mv_iload_n dL_law_1221 rfl ?_
  refine mv_iconst (v := nI 3) dL_law_1222 (by decide) ?_
  refine mv_iadd dL_law_1223 ?_
  refine mv_topI (y := nI (i + 3)) (nI_add i 3) ?_
  refine mv_raN (j := i + 3) dL_law_1224 (List.mem_of_getElem? (i := 0) rfl) rfl (by omega) (by omega) rfl ?_
  refine mv_aload_n dL_law_1225 rfl ?_
  refine mv_iload_n dL_law_1226 rfl ?_
  refine mv_iconst (v := nI 4) dL_law_1227 (by decide) ?_
  refine mv_iadd dL_law_1228 ?_
  refine mv_topI (y := nI (i + 4)) (nI_add i 4) ?_
  refine mv_raN (j := i + 4) dL_law_1229 (List.mem_of_getElem? (i := 0) rfl) rfl (by omega) (by omega) rfl ?_
  refine mv_aload_n dL_law_1230 rfl ?_
  refine mv_iload_n dL_law_1231 rfl ?_
  refine mv_iconst (v := nI 5) dL_law_1232 (by decide) ?_
  refine mv_iadd dL_law_1233 ?_
  refine mv_topI (y := nI (i + 5)) (nI_add i 5) ?_
  refine mv_raN (j := i + 5) dL_law_1234 (List.mem_of_getElem? (i := 0) rfl) rfl (by omega) (by omega) rfl ?_
  refine mv_aload_n dL_law_1235 rfl ?_
  refine mv_iload_n dL_law_1236 rfl ?_
  refine mv_bipush (v := nI 6) dL_law_1237 (by decide) ?_
  refine mv_iadd dL_law_1239 ?_
  refine mv_topI (y := nI (i + 6)) (nI_add i 6) ?_
  refine mv_raN (j := i + 6) dL_law_1240 (List.mem_of_getElem? (i := 0) rfl) rfl (by omega) (by omega) rfl ?_
  refine mv_cV6 (ci := 11) dL_law_1241 lk_L_law_126 hz0 rfl (Nat.le_of_ble_eq_true rfl) (Nat.le_of_ble_eq_true rfl) K1 ?_
  refine mv_aload_n dL_law_1244 rfl ?_
  refine mv_aload_n dL_law_1245 rfl ?_
  refine mv_iload_n dL_law_1246 rfl ?_
  refine mv_iconst (v := nI 1) dL_law_1247 (by decide) ?_
  refine mv_iadd dL_law_1248 ?_
  refine mv_topI (y := nI (i + 1)) (nI_add i 1) ?_
  refine mv_raN (j := i + 1) dL_law_1249 (List.mem_of_getElem? (i := 0) rfl) rfl (by omega) (by omega) rfl ?_
  refine mv_aload_n dL_law_1250 rfl ?_
  refine mv_iload_n dL_law_1251 rfl ?_
  refine mv_iconst (v := nI 2) dL_law_1252 (by decide) ?_
  refine mv_iadd dL_law_1253 ?_
  refine mv_topI (y := nI (i + 2)) (nI_add i 2) ?_
  refine mv_raN (j := i + 2) dL_law_1254 (List.mem_of_getElem? (i := 0) rfl) rfl (by omega) (by omega) rfl ?_
  refine mv_aload_n dL_law_1255 rfl ?_
  refine mv_iload_n dL_law_1256 rfl ?_
  refine mv_iconst (v := nI 3) dL_law_1257 (by decide) ?_
  refine mv_iadd dL_law_1258 ?_
  refine mv_topI (y := nI (i + 3)) (nI_add i 3) ?_
  refine mv_raN (j := i + 3) dL_law_1259 (List.mem_of_getElem? (i := 0) rfl) rfl (by omega) (by omega) rfl ?_
  refine mv_aload_n dL_law_1260 rfl ?_
  refine mv_iload_n dL_law_1261 rfl ?_
  refine mv_iconst (v := nI 4) dL_law_1262 (by decide) ?_
  refine mv_iadd dL_law_1263 ?_
  refine mv_topI (y := nI (i + 4)) (nI_add i 4) ?_
  refine mv_raN (j := i + 4) dL_law_1264 (List.mem_of_getElem? (i := 0) rfl) rfl (by omega) (by omega) rfl ?_
  refine mv_aload_n dL_law_1265 rfl ?_
  refine mv_iload_n dL_law_1266 rfl ?_
  refine mv_iconst (v := nI 5) dL_law_1267 (by decide) ?_
  refine mv_iadd dL_law_1268 ?_
  refine mv_topI (y := nI (i + 5)) (nI_add i 5) ?_
  refine mv_raN (j := i + 5) dL_law_1269 (List.mem_of_getElem? (i := 0) rfl) rfl (by omega) (by omega) rfl ?_
  refine mv_aload_n dL_law_1270 rfl ?_
  refine mv_iload_n dL_law_1271 rfl ?_
  refine mv_bipush (v := nI 6) dL_law_1272 (by decide) ?_
  refine mv_iadd dL_law_1274 ?_
  refine mv_topI (y := nI (i + 6)) (nI_add i 6) ?_
  refine mv_raN (j := i + 6) dL_law_1275 (List.mem_of_getElem? (i := 0) rfl) rfl (by omega) (by omega) rfl ?_
  refine mv_cV6 (ci := 12) dL_law_1276 lk_L_law_129 hz1 rfl (Nat.le_of_ble_eq_true rfl) (Nat.le_of_ble_eq_true rfl) K2 ?_
  refine mv_icmp_eq (tgt := 1532) dL_law_1279 (by decide) (fun _ => ?_) (fun z => absurd rfl z)
  exact kk h2 hI2
set_option maxRecDepth 100000 in
theorem q_Lc26 {ev : mv_E} {h : mv_H} (hE : q_E ev) (hI : q_I h) (hL : ev.1 ≤ 4608) {i : Nat} (hi : i + 9 ≤ ev.1) {Q : Option Value → mv_H → Prop} (kk : ∀ h2, q_I h2 → mv_g ev mL_law 1532 [.ref 1000000, .ref 0, .ref 52, .int (nI i)] [] h2 Q) : mv_g ev mL_law 1284 [.ref 1000000, .ref 0, .ref 52, .int (nI i)] [] h Q := by
  obtain ⟨fs0, hz0⟩ := q_I0 hI
  obtain ⟨r, h1, h2, K1, K2, ⟨fs1, hz1⟩, hI2⟩ := s_luck (ev := ev) hI (ev.2.1 (i + 1)) (ev.2.1 (i + 2)) (ev.2.1 (i + 3))
  refine mv_aload_n dL_law_1284 rfl ?_
  refine mv_aload_n dL_law_1285 rfl ?_
  refine mv_iload_n dL_law_1286 rfl ?_
  refine mv_iconst (v := nI 1) dL_law_1287 (by decide) ?_
  refine mv_iadd dL_law_1288 ?_
  refine mv_topI (y := nI (i + 1)) (nI_add i 1) ?_
  refine mv_raN (j := i + 1) dL_law_1289 (List.mem_of_getElem? (i := 0) rfl) rfl (by omega) (by omega) rfl ?_
  refine mv_aload_n dL_law_1290 rfl ?_
  refine mv_iload_n dL_law_1291 rfl ?_
  refine mv_iconst (v := nI 2) dL_law_1292 (by decide) ?_
  refine mv_iadd dL_law_1293 ?_
  refine mv_topI (y := nI (i + 2)) (nI_add i 2) ?_
  refine mv_raN (j := i + 2) dL_law_1294 (List.mem_of_getElem? (i := 0) rfl) rfl (by omega) (by omega) rfl ?_
  refine mv_aload_n dL_law_1295 rfl ?_
  refine mv_iload_n dL_law_1296 rfl ?_
  refine mv_iconst (v := nI 3) dL_law_1297 (by decide) ?_
  refine mv_iadd dL_law_1298 ?_
  refine mv_topI (y := nI (i + 3)) (nI_add i 3) ?_
  refine mv_raN (j := i + 3) dL_law_1299 (List.mem_of_getElem? (i := 0) rfl) rfl (by omega) (by omega) rfl ?_
  refine mv_cV3 (ci := 11) dL_law_1300 lk_L_law_130 hz0 rfl (Nat.le_of_ble_eq_true rfl) (Nat.le_of_ble_eq_true rfl) K1 ?_
  refine mv_aload_n dL_law_1303 rfl ?_
  refine mv_aload_n dL_law_1304 rfl ?_
  refine mv_iload_n dL_law_1305 rfl ?_
  refine mv_iconst (v := nI 1) dL_law_1306 (by decide) ?_
  refine mv_iadd dL_law_1307 ?_
  refine mv_topI (y := nI (i + 1)) (nI_add i 1) ?_
  refine mv_raN (j := i + 1) dL_law_1308 (List.mem_of_getElem? (i := 0) rfl) rfl (by omega) (by omega) rfl ?_
  refine mv_aload_n dL_law_1309 rfl ?_
  refine mv_iload_n dL_law_1310 rfl ?_
  refine mv_iconst (v := nI 2) dL_law_1311 (by decide) ?_
  refine mv_iadd dL_law_1312 ?_
  refine mv_topI (y := nI (i + 2)) (nI_add i 2) ?_
  refine mv_raN (j := i + 2) dL_law_1313 (List.mem_of_getElem? (i := 0) rfl) rfl (by omega) (by omega) rfl ?_
  refine mv_aload_n dL_law_1314 rfl ?_
  refine mv_iload_n dL_law_1315 rfl ?_
  refine mv_iconst (v := nI 3) dL_law_1316 (by decide) ?_
  refine mv_iadd dL_law_1317 ?_
  refine mv_topI (y := nI (i + 3)) (nI_add i 3) ?_
  refine mv_raN (j := i + 3) dL_law_1318 (List.mem_of_getElem? (i := 0) rfl) rfl (by omega) (by omega) rfl ?_
  refine mv_cV3 (ci := 12) dL_law_1319 lk_L_law_133 hz1 rfl (Nat.le_of_ble_eq_true rfl) (Nat.le_of_ble_eq_true rfl) K2 ?_
  refine mv_icmp_eq (tgt := 1532) dL_law_1322 (by decide) (fun _ => ?_) (fun z => absurd rfl z)
  exact kk h2 hI2
set_option maxRecDepth 100000 in
theorem q_Lc27 {ev : mv_E} {h : mv_H} (hE : q_E ev) (hI : q_I h) (hL : ev.1 ≤ 4608) {i : Nat} (hi : i + 9 ≤ ev.1) {Q : Option Value → mv_H → Prop} (kk : ∀ h2, q_I h2 → mv_g ev mL_law 1532 [.ref 1000000, .ref 0, .ref 52, .int (nI i)] [] h2 Q) : mv_g ev mL_law 1327 [.ref 1000000, .ref 0, .ref 52, .int (nI i)] [] h Q := by
  obtain ⟨fs0, hz0⟩ := q_I0 hI
  obtain ⟨r, h1, h2, K1, K2, ⟨fs1, hz1⟩, hI2⟩ := s_lake (ev := ev) hI (ev.2.1 (i + 1)) (ev.2.1 (i + 2)) (ev.2.1 (i + 3)) (ev.2.1 (i + 4)) (ev.2.1 (i + 5))
  refine mv_aload_n dL_law_1327 rfl ?_
  refine mv_aload_n dL_law_1328 rfl ?_
  refine mv_iload_n dL_law_1329 rfl ?_
  refine mv_iconst (v := nI 1) dL_law_1330 (by decide) ?_
  refine mv_iadd dL_law_1331 ?_
  refine mv_topI (y := nI (i + 1)) (nI_add i 1) ?_
  refine mv_raN (j := i + 1) dL_law_1332 (List.mem_of_getElem? (i := 0) rfl) rfl (by omega) (by omega) rfl ?_
  refine mv_aload_n dL_law_1333 rfl ?_
  refine mv_iload_n dL_law_1334 rfl ?_
  refine mv_iconst (v := nI 2) dL_law_1335 (by decide) ?_
  refine mv_iadd dL_law_1336 ?_
  refine mv_topI (y := nI (i + 2)) (nI_add i 2) ?_
  refine mv_raN (j := i + 2) dL_law_1337 (List.mem_of_getElem? (i := 0) rfl) rfl (by omega) (by omega) rfl ?_
  refine mv_aload_n dL_law_1338 rfl ?_
  refine mv_iload_n dL_law_1339 rfl ?_
  refine mv_iconst (v := nI 3) dL_law_1340 (by decide) ?_
  refine mv_iadd dL_law_1341 ?_
  refine mv_topI (y := nI (i + 3)) (nI_add i 3) ?_
  refine mv_raN (j := i + 3) dL_law_1342 (List.mem_of_getElem? (i := 0) rfl) rfl (by omega) (by omega) rfl ?_
  refine mv_aload_n dL_law_1343 rfl ?_
  refine mv_iload_n dL_law_1344 rfl ?_
  refine mv_iconst (v := nI 4) dL_law_1345 (by decide) ?_
  refine mv_iadd dL_law_1346 ?_
  refine mv_topI (y := nI (i + 4)) (nI_add i 4) ?_
  refine mv_raN (j := i + 4) dL_law_1347 (List.mem_of_getElem? (i := 0) rfl) rfl (by omega) (by omega) rfl ?_
  refine mv_aload_n dL_law_1348 rfl ?_
  refine mv_iload_n dL_law_1349 rfl ?_
  refine mv_iconst (v := nI 5) dL_law_1350 (by decide) ?_
  refine mv_iadd dL_law_1351 ?_
  refine mv_topI (y := nI (i + 5)) (nI_add i 5) ?_
  refine mv_raN (j := i + 5) dL_law_1352 (List.mem_of_getElem? (i := 0) rfl) rfl (by omega) (by omega) rfl ?_
  refine mv_cV5 (ci := 11) dL_law_1353 lk_L_law_134 hz0 rfl (Nat.le_of_ble_eq_true rfl) (Nat.le_of_ble_eq_true rfl) K1 ?_
  refine mv_aload_n dL_law_1356 rfl ?_
  refine mv_aload_n dL_law_1357 rfl ?_
  refine mv_iload_n dL_law_1358 rfl ?_
  refine mv_iconst (v := nI 1) dL_law_1359 (by decide) ?_
  refine mv_iadd dL_law_1360 ?_
  refine mv_topI (y := nI (i + 1)) (nI_add i 1) ?_
  refine mv_raN (j := i + 1) dL_law_1361 (List.mem_of_getElem? (i := 0) rfl) rfl (by omega) (by omega) rfl ?_
  refine mv_aload_n dL_law_1362 rfl ?_
  refine mv_iload_n dL_law_1363 rfl ?_
  refine mv_iconst (v := nI 2) dL_law_1364 (by decide) ?_
  refine mv_iadd dL_law_1365 ?_
  refine mv_topI (y := nI (i + 2)) (nI_add i 2) ?_
  refine mv_raN (j := i + 2) dL_law_1366 (List.mem_of_getElem? (i := 0) rfl) rfl (by omega) (by omega) rfl ?_
  refine mv_aload_n dL_law_1367 rfl ?_
  refine mv_iload_n dL_law_1368 rfl ?_
  refine mv_iconst (v := nI 3) dL_law_1369 (by decide) ?_
  refine mv_iadd dL_law_1370 ?_
  refine mv_topI (y := nI (i + 3)) (nI_add i 3) ?_
  refine mv_raN (j := i + 3) dL_law_1371 (List.mem_of_getElem? (i := 0) rfl) rfl (by omega) (by omega) rfl ?_
  refine mv_aload_n dL_law_1372 rfl ?_
  refine mv_iload_n dL_law_1373 rfl ?_
  refine mv_iconst (v := nI 4) dL_law_1374 (by decide) ?_
  refine mv_iadd dL_law_1375 ?_
  refine mv_topI (y := nI (i + 4)) (nI_add i 4) ?_
  refine mv_raN (j := i + 4) dL_law_1376 (List.mem_of_getElem? (i := 0) rfl) rfl (by omega) (by omega) rfl ?_
  refine mv_aload_n dL_law_1377 rfl ?_
  refine mv_iload_n dL_law_1378 rfl ?_
  refine mv_iconst (v := nI 5) dL_law_1379 (by decide) ?_
  refine mv_iadd dL_law_1380 ?_
  refine mv_topI (y := nI (i + 5)) (nI_add i 5) ?_
  refine mv_raN (j := i + 5) dL_law_1381 (List.mem_of_getElem? (i := 0) rfl) rfl (by omega) (by omega) rfl ?_
  refine mv_cV5 (ci := 12) dL_law_1382 lk_L_law_137 hz1 rfl (Nat.le_of_ble_eq_true rfl) (Nat.le_of_ble_eq_true rfl) K2 ?_
  refine mv_icmp_eq (tgt := 1532) dL_law_1385 (by decide) (fun _ => ?_) (fun z => absurd rfl z)
  exact kk h2 hI2
set_option maxRecDepth 100000 in
theorem q_Lc28 {ev : mv_E} {h : mv_H} (hE : q_E ev) (hI : q_I h) (hL : ev.1 ≤ 4608) {i : Nat} (hi : i + 9 ≤ ev.1) {Q : Option Value → mv_H → Prop} (kk : ∀ h2, q_I h2 → mv_g ev mL_law 1532 [.ref 1000000, .ref 0, .ref 52, .int (nI i)] [] h2 Q) : mv_g ev mL_law 1390 [.ref 1000000, .ref 0, .ref 52, .int (nI i)] [] h Q := by
  obtain ⟨fs0, hz0⟩ := q_I0 hI
  obtain ⟨r, h1, h2, K1, K2, ⟨fs1, hz1⟩, hI2⟩ := s_say (ev := ev) hI (ev.2.1 (i + 1)) (ev.2.1 (i + 2)) (ev.2.1 (i + 3))
  refine mv_aload_n dL_law_1390 rfl ?_
  refine mv_aload_n dL_law_1391 rfl ?_
  refine mv_iload_n dL_law_1392 rfl ?_
  refine mv_iconst (v := nI 1) dL_law_1393 (by decide) ?_
  refine mv_iadd dL_law_1394 ?_
  refine mv_topI (y := nI (i + 1)) (nI_add i 1) ?_
  refine mv_raN (j := i + 1) dL_law_1395 (List.mem_of_getElem? (i := 0) rfl) rfl (by omega) (by omega) rfl ?_
  refine mv_aload_n dL_law_1396 rfl ?_
  refine mv_iload_n dL_law_1397 rfl ?_
  refine mv_iconst (v := nI 2) dL_law_1398 (by decide) ?_
  refine mv_iadd dL_law_1399 ?_
  refine mv_topI (y := nI (i + 2)) (nI_add i 2) ?_
  refine mv_raN (j := i + 2) dL_law_1400 (List.mem_of_getElem? (i := 0) rfl) rfl (by omega) (by omega) rfl ?_
  refine mv_aload_n dL_law_1401 rfl ?_
  refine mv_iload_n dL_law_1402 rfl ?_
  refine mv_iconst (v := nI 3) dL_law_1403 (by decide) ?_
  refine mv_iadd dL_law_1404 ?_
  refine mv_topI (y := nI (i + 3)) (nI_add i 3) ?_
  refine mv_raN (j := i + 3) dL_law_1405 (List.mem_of_getElem? (i := 0) rfl) rfl (by omega) (by omega) rfl ?_
  refine mv_cV3 (ci := 11) dL_law_1406 lk_L_law_138 hz0 rfl (Nat.le_of_ble_eq_true rfl) (Nat.le_of_ble_eq_true rfl) K1 ?_
  refine mv_aload_n dL_law_1409 rfl ?_
  refine mv_aload_n dL_law_1410 rfl ?_
  refine mv_iload_n dL_law_1411 rfl ?_
  refine mv_iconst (v := nI 1) dL_law_1412 (by decide) ?_
  refine mv_iadd dL_law_1413 ?_
  refine mv_topI (y := nI (i + 1)) (nI_add i 1) ?_
  refine mv_raN (j := i + 1) dL_law_1414 (List.mem_of_getElem? (i := 0) rfl) rfl (by omega) (by omega) rfl ?_
  refine mv_aload_n dL_law_1415 rfl ?_
  refine mv_iload_n dL_law_1416 rfl ?_
  refine mv_iconst (v := nI 2) dL_law_1417 (by decide) ?_
  refine mv_iadd dL_law_1418 ?_
  refine mv_topI (y := nI (i + 2)) (nI_add i 2) ?_
  refine mv_raN (j := i + 2) dL_law_1419 (List.mem_of_getElem? (i := 0) rfl) rfl (by omega) (by omega) rfl ?_
  refine mv_aload_n dL_law_1420 rfl ?_
  refine mv_iload_n dL_law_1421 rfl ?_
  refine mv_iconst (v := nI 3) dL_law_1422 (by decide) ?_
  refine mv_iadd dL_law_1423 ?_
  refine mv_topI (y := nI (i + 3)) (nI_add i 3) ?_
  refine mv_raN (j := i + 3) dL_law_1424 (List.mem_of_getElem? (i := 0) rfl) rfl (by omega) (by omega) rfl ?_
  refine mv_cV3 (ci := 12) dL_law_1425 lk_L_law_141 hz1 rfl (Nat.le_of_ble_eq_true rfl) (Nat.le_of_ble_eq_true rfl) K2 ?_
  refine mv_icmp_eq (tgt := 1532) dL_law_1428 (by decide) (fun _ => ?_) (fun z => absurd rfl z)
  exact kk h2 hI2
set_option maxRecDepth 100000 in
theorem q_Lc29 {ev : mv_E} {h : mv_H} (hE : q_E ev) (hI : q_I h) (hL : ev.1 ≤ 4608) {i : Nat} (hi : i + 9 ≤ ev.1) {Q : Option Value → mv_H → Prop} (kk : ∀ h2, q_I h2 → mv_g ev mL_law 1532 [.ref 1000000, .ref 0, .ref 52, .int (nI i)] [] h2 Q) : mv_g ev mL_law 1433 [.ref 1000000, .ref 0, .ref 52, .int (nI i)] [] h Q := by
  obtain ⟨fs0, hz0⟩ := q_I0 hI
  obtain ⟨r, h1, h2, K1, K2, ⟨fs1, hz1⟩, hI2⟩ := s_judged (ev := ev) hI (ev.2.1 (i + 1)) (ev.2.1 (i + 2)) (ev.2.1 (i + 3)) (ev.2.1 (i + 4))
  refine mv_aload_n dL_law_1433 rfl ?_
  refine mv_aload_n dL_law_1434 rfl ?_
  refine mv_iload_n dL_law_1435 rfl ?_
  refine mv_iconst (v := nI 1) dL_law_1436 (by decide) ?_
  refine mv_iadd dL_law_1437 ?_
  refine mv_topI (y := nI (i + 1)) (nI_add i 1) ?_
  refine mv_raN (j := i + 1) dL_law_1438 (List.mem_of_getElem? (i := 0) rfl) rfl (by omega) (by omega) rfl ?_
  refine mv_aload_n dL_law_1439 rfl ?_
  refine mv_iload_n dL_law_1440 rfl ?_
  refine mv_iconst (v := nI 2) dL_law_1441 (by decide) ?_
  refine mv_iadd dL_law_1442 ?_
  refine mv_topI (y := nI (i + 2)) (nI_add i 2) ?_
  refine mv_raN (j := i + 2) dL_law_1443 (List.mem_of_getElem? (i := 0) rfl) rfl (by omega) (by omega) rfl ?_
  refine mv_aload_n dL_law_1444 rfl ?_
  refine mv_iload_n dL_law_1445 rfl ?_
  refine mv_iconst (v := nI 3) dL_law_1446 (by decide) ?_
  refine mv_iadd dL_law_1447 ?_
  refine mv_topI (y := nI (i + 3)) (nI_add i 3) ?_
  refine mv_raN (j := i + 3) dL_law_1448 (List.mem_of_getElem? (i := 0) rfl) rfl (by omega) (by omega) rfl ?_
  refine mv_aload_n dL_law_1449 rfl ?_
  refine mv_iload_n dL_law_1450 rfl ?_
  refine mv_iconst (v := nI 4) dL_law_1451 (by decide) ?_
  refine mv_iadd dL_law_1452 ?_
  refine mv_topI (y := nI (i + 4)) (nI_add i 4) ?_
  refine mv_raN (j := i + 4) dL_law_1453 (List.mem_of_getElem? (i := 0) rfl) rfl (by omega) (by omega) rfl ?_
  refine mv_cV4 (ci := 11) dL_law_1454 lk_L_law_142 hz0 rfl (Nat.le_of_ble_eq_true rfl) (Nat.le_of_ble_eq_true rfl) K1 ?_
  refine mv_aload_n dL_law_1457 rfl ?_
  refine mv_aload_n dL_law_1458 rfl ?_
  refine mv_iload_n dL_law_1459 rfl ?_
  refine mv_iconst (v := nI 1) dL_law_1460 (by decide) ?_
  refine mv_iadd dL_law_1461 ?_
  refine mv_topI (y := nI (i + 1)) (nI_add i 1) ?_
  refine mv_raN (j := i + 1) dL_law_1462 (List.mem_of_getElem? (i := 0) rfl) rfl (by omega) (by omega) rfl ?_
  refine mv_aload_n dL_law_1463 rfl ?_
  refine mv_iload_n dL_law_1464 rfl ?_
  refine mv_iconst (v := nI 2) dL_law_1465 (by decide) ?_
  refine mv_iadd dL_law_1466 ?_
  refine mv_topI (y := nI (i + 2)) (nI_add i 2) ?_
  refine mv_raN (j := i + 2) dL_law_1467 (List.mem_of_getElem? (i := 0) rfl) rfl (by omega) (by omega) rfl ?_
  refine mv_aload_n dL_law_1468 rfl ?_
  refine mv_iload_n dL_law_1469 rfl ?_
  refine mv_iconst (v := nI 3) dL_law_1470 (by decide) ?_
  refine mv_iadd dL_law_1471 ?_
  refine mv_topI (y := nI (i + 3)) (nI_add i 3) ?_
  refine mv_raN (j := i + 3) dL_law_1472 (List.mem_of_getElem? (i := 0) rfl) rfl (by omega) (by omega) rfl ?_
  refine mv_aload_n dL_law_1473 rfl ?_
  refine mv_iload_n dL_law_1474 rfl ?_
  refine mv_iconst (v := nI 4) dL_law_1475 (by decide) ?_
  refine mv_iadd dL_law_1476 ?_
  refine mv_topI (y := nI (i + 4)) (nI_add i 4) ?_
  refine mv_raN (j := i + 4) dL_law_1477 (List.mem_of_getElem? (i := 0) rfl) rfl (by omega) (by omega) rfl ?_
  refine mv_cV4 (ci := 12) dL_law_1478 lk_L_law_145 hz1 rfl (Nat.le_of_ble_eq_true rfl) (Nat.le_of_ble_eq_true rfl) K2 ?_
  refine mv_icmp_eq (tgt := 1532) dL_law_1481 (by decide) (fun _ => ?_) (fun z => absurd rfl z)
  exact kk h2 hI2
set_option maxRecDepth 100000 in
theorem q_Lc30 {ev : mv_E} {h : mv_H} (hE : q_E ev) (hI : q_I h) (hL : ev.1 ≤ 4608) {i : Nat} (hi : i + 9 ≤ ev.1) {Q : Option Value → mv_H → Prop} (kk : ∀ h2, q_I h2 → mv_g ev mL_law 1532 [.ref 1000000, .ref 0, .ref 52, .int (nI i)] [] h2 Q) : mv_g ev mL_law 1486 [.ref 1000000, .ref 0, .ref 52, .int (nI i)] [] h Q := by
  obtain ⟨fs0, hz0⟩ := q_I0 hI
  obtain ⟨r, h1, h2, K1, K2, ⟨fs1, hz1⟩, hI2⟩ := s_keep (ev := ev) hI (ev.2.1 (i + 1))
  refine mv_aload_n dL_law_1486 rfl ?_
  refine mv_aload_n dL_law_1487 rfl ?_
  refine mv_iload_n dL_law_1488 rfl ?_
  refine mv_iconst (v := nI 1) dL_law_1489 (by decide) ?_
  refine mv_iadd dL_law_1490 ?_
  refine mv_topI (y := nI (i + 1)) (nI_add i 1) ?_
  refine mv_raN (j := i + 1) dL_law_1491 (List.mem_of_getElem? (i := 0) rfl) rfl (by omega) (by omega) rfl ?_
  refine mv_cV1 (ci := 11) dL_law_1492 lk_L_law_146 hz0 rfl (Nat.le_of_ble_eq_true rfl) (Nat.le_of_ble_eq_true rfl) K1 ?_
  refine mv_aload_n dL_law_1495 rfl ?_
  refine mv_aload_n dL_law_1496 rfl ?_
  refine mv_iload_n dL_law_1497 rfl ?_
  refine mv_iconst (v := nI 1) dL_law_1498 (by decide) ?_
  refine mv_iadd dL_law_1499 ?_
  refine mv_topI (y := nI (i + 1)) (nI_add i 1) ?_
  refine mv_raN (j := i + 1) dL_law_1500 (List.mem_of_getElem? (i := 0) rfl) rfl (by omega) (by omega) rfl ?_
  refine mv_cV1 (ci := 12) dL_law_1501 lk_L_law_149 hz1 rfl (Nat.le_of_ble_eq_true rfl) (Nat.le_of_ble_eq_true rfl) K2 ?_
  refine mv_icmp_eq (tgt := 1532) dL_law_1504 (by decide) (fun _ => ?_) (fun z => absurd rfl z)
  exact kk h2 hI2
set_option maxRecDepth 100000 in
theorem q_Lc31 {ev : mv_E} {h : mv_H} (hE : q_E ev) (hI : q_I h) (hL : ev.1 ≤ 4608) {i : Nat} (hi : i + 9 ≤ ev.1) {Q : Option Value → mv_H → Prop} (kk : ∀ h2, q_I h2 → mv_g ev mL_law 1532 [.ref 1000000, .ref 0, .ref 52, .int (nI i)] [] h2 Q) : mv_g ev mL_law 1509 [.ref 1000000, .ref 0, .ref 52, .int (nI i)] [] h Q := by
  obtain ⟨fs0, hz0⟩ := q_I0 hI
  obtain ⟨r, h1, h2, K1, K2, ⟨fs1, hz1⟩, hI2⟩ := s_goBack (ev := ev) hI (ev.2.1 (i + 1))
  refine mv_aload_n dL_law_1509 rfl ?_
  refine mv_aload_n dL_law_1510 rfl ?_
  refine mv_iload_n dL_law_1511 rfl ?_
  refine mv_iconst (v := nI 1) dL_law_1512 (by decide) ?_
  refine mv_iadd dL_law_1513 ?_
  refine mv_topI (y := nI (i + 1)) (nI_add i 1) ?_
  refine mv_raN (j := i + 1) dL_law_1514 (List.mem_of_getElem? (i := 0) rfl) rfl (by omega) (by omega) rfl ?_
  refine mv_cV1 (ci := 11) dL_law_1515 lk_L_law_150 hz0 rfl (Nat.le_of_ble_eq_true rfl) (Nat.le_of_ble_eq_true rfl) K1 ?_
  refine mv_aload_n dL_law_1518 rfl ?_
  refine mv_aload_n dL_law_1519 rfl ?_
  refine mv_iload_n dL_law_1520 rfl ?_
  refine mv_iconst (v := nI 1) dL_law_1521 (by decide) ?_
  refine mv_iadd dL_law_1522 ?_
  refine mv_topI (y := nI (i + 1)) (nI_add i 1) ?_
  refine mv_raN (j := i + 1) dL_law_1523 (List.mem_of_getElem? (i := 0) rfl) rfl (by omega) (by omega) rfl ?_
  refine mv_cV1 (ci := 12) dL_law_1524 lk_L_law_153 hz1 rfl (Nat.le_of_ble_eq_true rfl) (Nat.le_of_ble_eq_true rfl) K2 ?_
  refine mv_icmp_eq (tgt := 1532) dL_law_1527 (by decide) (fun _ => ?_) (fun z => absurd rfl z)
  exact kk h2 hI2
set_option maxRecDepth 100000 in
theorem q_Lturn {ev : mv_E} {h : mv_H} (hE : q_E ev) (hI : q_I h) (hL : ev.1 ≤ 4608) {i : Nat} (hi : i + 9 ≤ ev.1) {Q : Option Value → mv_H → Prop} (kk : ∀ h2, q_I h2 → mv_g ev mL_law 1532 [.ref 1000000, .ref 0, .ref 52, .int (nI i)] [] h2 Q) : mv_g ev mL_law 27 [.ref 1000000, .ref 0, .ref 52, .int (nI i)] [] h Q := by
  refine mv_aload_n dL_law_27 rfl ?_
  refine mv_iload_n dL_law_28 rfl ?_
  refine mv_raN (j := i) dL_law_29 (List.mem_of_getElem? (i := 0) rfl) rfl (by omega) (by omega) rfl ?_
  refine mv_bipush (v := nI 31) dL_law_30 (by decide) ?_
  refine mv_iand dL_law_32 ?_
  obtain ⟨n, hn, e⟩ := q_m31 (ev.2.1 i)
  refine mv_topI e ?_
  rcases (show n = 0 ∨ n = 1 ∨ n = 2 ∨ n = 3 ∨ n = 4 ∨ n = 5 ∨ n = 6 ∨ n = 7 ∨ n = 8 ∨ n = 9 ∨ n = 10 ∨ n = 11 ∨ n = 12 ∨ n = 13 ∨ n = 14 ∨ n = 15 ∨ n = 16 ∨ n = 17 ∨ n = 18 ∨ n = 19 ∨ n = 20 ∨ n = 21 ∨ n = 22 ∨ n = 23 ∨ n = 24 ∨ n = 25 ∨ n = 26 ∨ n = 27 ∨ n = 28 ∨ n = 29 ∨ n = 30 ∨ n = 31 by omega) with rfl | rfl | rfl | rfl | rfl | rfl | rfl | rfl | rfl | rfl | rfl | rfl | rfl | rfl | rfl | rfl | rfl | rfl | rfl | rfl | rfl | rfl | rfl | rfl | rfl | rfl | rfl | rfl | rfl | rfl | rfl | rfl
  · refine mv_tswIn (tgt := 176) dL_law_33 (by decide) (by decide) rfl (by decide) ?_
    exact q_Lc0 hE hI hL hi kk
  · refine mv_tswIn (tgt := 239) dL_law_33 (by decide) (by decide) rfl (by decide) ?_
    exact q_Lc1 hE hI hL hi kk
  · refine mv_tswIn (tgt := 252) dL_law_33 (by decide) (by decide) rfl (by decide) ?_
    exact q_Lc2 hE hI hL hi kk
  · refine mv_tswIn (tgt := 265) dL_law_33 (by decide) (by decide) rfl (by decide) ?_
    exact q_Lc3 hE hI hL hi kk
  · refine mv_tswIn (tgt := 288) dL_law_33 (by decide) (by decide) rfl (by decide) ?_
    exact q_Lc4 hE hI hL hi kk
  · refine mv_tswIn (tgt := 321) dL_law_33 (by decide) (by decide) rfl (by decide) ?_
    exact q_Lc5 hE hI hL hi kk
  · refine mv_tswIn (tgt := 344) dL_law_33 (by decide) (by decide) rfl (by decide) ?_
    exact q_Lc6 hE hI hL hi kk
  · refine mv_tswIn (tgt := 387) dL_law_33 (by decide) (by decide) rfl (by decide) ?_
    exact q_Lc7 hE hI hL hi kk
  · refine mv_tswIn (tgt := 410) dL_law_33 (by decide) (by decide) rfl (by decide) ?_
    exact q_Lc8 hE hI hL hi kk
  · refine mv_tswIn (tgt := 433) dL_law_33 (by decide) (by decide) rfl (by decide) ?_
    exact q_Lc9 hE hI hL hi kk
  · refine mv_tswIn (tgt := 466) dL_law_33 (by decide) (by decide) rfl (by decide) ?_
    exact q_Lc10 hE hI hL hi kk
  · refine mv_tswIn (tgt := 489) dL_law_33 (by decide) (by decide) rfl (by decide) ?_
    exact q_Lc11 hE hI hL hi kk
  · refine mv_tswIn (tgt := 564) dL_law_33 (by decide) (by decide) rfl (by decide) ?_
    exact q_Lc12 hE hI hL hi kk
  · refine mv_tswIn (tgt := 617) dL_law_33 (by decide) (by decide) rfl (by decide) ?_
    exact q_Lc13 hE hI hL hi kk
  · refine mv_tswIn (tgt := 666) dL_law_33 (by decide) (by decide) rfl (by decide) ?_
    exact q_Lc14 hE hI hL hi kk
  · refine mv_tswIn (tgt := 719) dL_law_33 (by decide) (by decide) rfl (by decide) ?_
    exact q_Lc15 hE hI hL hi kk
  · refine mv_tswIn (tgt := 752) dL_law_33 (by decide) (by decide) rfl (by decide) ?_
    exact q_Lc16 hE hI hL hi kk
  · refine mv_tswIn (tgt := 785) dL_law_33 (by decide) (by decide) rfl (by decide) ?_
    exact q_Lc17 hE hI hL hi kk
  · refine mv_tswIn (tgt := 838) dL_law_33 (by decide) (by decide) rfl (by decide) ?_
    exact q_Lc18 hE hI hL hi kk
  · refine mv_tswIn (tgt := 871) dL_law_33 (by decide) (by decide) rfl (by decide) ?_
    exact q_Lc19 hE hI hL hi kk
  · refine mv_tswIn (tgt := 934) dL_law_33 (by decide) (by decide) rfl (by decide) ?_
    exact q_Lc20 hE hI hL hi kk
  · refine mv_tswIn (tgt := 977) dL_law_33 (by decide) (by decide) rfl (by decide) ?_
    exact q_Lc21 hE hI hL hi kk
  · refine mv_tswIn (tgt := 1064) dL_law_33 (by decide) (by decide) rfl (by decide) ?_
    exact q_Lc22 hE hI hL hi kk
  · refine mv_tswIn (tgt := 1097) dL_law_33 (by decide) (by decide) rfl (by decide) ?_
    exact q_Lc23 hE hI hL hi kk
  · refine mv_tswIn (tgt := 1110) dL_law_33 (by decide) (by decide) rfl (by decide) ?_
    exact q_Lc24 hE hI hL hi kk
  · refine mv_tswIn (tgt := 1209) dL_law_33 (by decide) (by decide) rfl (by decide) ?_
    exact q_Lc25 hE hI hL hi kk
  · refine mv_tswIn (tgt := 1284) dL_law_33 (by decide) (by decide) rfl (by decide) ?_
    exact q_Lc26 hE hI hL hi kk
  · refine mv_tswIn (tgt := 1327) dL_law_33 (by decide) (by decide) rfl (by decide) ?_
    exact q_Lc27 hE hI hL hi kk
  · refine mv_tswIn (tgt := 1390) dL_law_33 (by decide) (by decide) rfl (by decide) ?_
    exact q_Lc28 hE hI hL hi kk
  · refine mv_tswIn (tgt := 1433) dL_law_33 (by decide) (by decide) rfl (by decide) ?_
    exact q_Lc29 hE hI hL hi kk
  · refine mv_tswIn (tgt := 1486) dL_law_33 (by decide) (by decide) rfl (by decide) ?_
    exact q_Lc30 hE hI hL hi kk
  · refine mv_tswIn (tgt := 1509) dL_law_33 (by decide) (by decide) rfl (by decide) ?_
    exact q_Lc31 hE hI hL hi kk
set_option maxRecDepth 100000 in
theorem q_Lloop {ev : mv_E} (hE : q_E ev) (hL : ev.1 ≤ 4608) : ∀ (u i : Nat) (h : mv_H), q_I h → ev.1 ≤ i + u → i ≤ ev.1 → mv_g ev mL_law 18 [.ref 1000000, .ref 0, .ref 52, .int (nI i)] [] h (fun r _ => r = some (.int (nI 1))) := by
  intro u
  induction u with
  | zero =>
    intro i h hI h1 h2
    refine mv_iload_n dL_law_18 rfl ?_
    refine mv_aload_n dL_law_19 rfl ?_
    refine mv_rlen (n0 := ev.1) dL_law_20 (List.mem_of_getElem? (i := 0) rfl) ?_
    refine mv_bipush (v := nI 9) dL_law_21 (by decide) ?_
    refine mv_isub dL_law_23 ?_
    refine mv_icmp_gt (tgt := 1538) dL_law_24 (by decide) (fun _ => ?_) (fun z => absurd ((q_L9 hL (by omega)).mpr (by omega)) z)
    refine mv_iconst (v := nI 1) dL_law_1538 (by decide) ?_
    exact mv_iret dL_law_1539 rfl rfl rfl
  | succ u ih =>
    intro i h hI h1 h2
    refine mv_iload_n dL_law_18 rfl ?_
    refine mv_aload_n dL_law_19 rfl ?_
    refine mv_rlen (n0 := ev.1) dL_law_20 (List.mem_of_getElem? (i := 0) rfl) ?_
    refine mv_bipush (v := nI 9) dL_law_21 (by decide) ?_
    refine mv_isub dL_law_23 ?_
    refine mv_icmp_gt (tgt := 1538) dL_law_24 (by decide) (fun _ => ?_) (fun z => ?_)
    · refine mv_iconst (v := nI 1) dL_law_1538 (by decide) ?_
      exact mv_iret dL_law_1539 rfl rfl rfl
    · have hi : i + 9 ≤ ev.1 := Nat.le_of_not_lt (fun q => z ((q_L9 hL (by omega)).mpr q))
      refine q_Lturn hE hI hL hi (fun h3 hI3 => ?_)
      refine mv_iinc (v := nI (i + 9)) dL_law_1532 rfl (mv_inc i 9) (by decide) ?_
      refine mv_goto (tgt := 18) dL_law_1535 (by decide) ?_
      exact ih (i + 9) h3 hI3 (by omega) hi
