/-! The law's cases, over any heaps. -/
def lgw (a b : Int) : Int64 := (ll a <<< ((ii 32).toInt64 &&& 63)) ||| (ll b &&& ll 4294967295)
def lg (a b : Int) : Int := (lgw a b).toInt
theorem lg_ok (a b : Int) : lgw a b = ll (lg a b) := (ll_self _).symm
theorem lg_in (a b : Int) : -9223372036854775808 ≤ lg a b ∧ lg a b ≤ 9223372036854775807 := ⟨Int64.le_toInt _, Int64.toInt_le _⟩
section LAWC
variable {L i : Nat} {xs : Int → Int} {h0 h1 h2 : pd_H} {r : pd_Out × pd_H} {w5 w6 w7 : Value} {fs fs2 fs3 : List Value} {kk b : Int} {o : Int → Int}
theorem l0 (hL : (i : Int) + 5 ≤ L) (hL2 : L ≤ 2560) (hx : ∀ q : Int, -2147483648 ≤ xs q ∧ xs q ≤ 2147483647) (hs0 : pd_get h0 0 = sr L xs) (hA : Ca 178 [.ref 1, .int (ii (xs ((i : Int) + 1))), .ref 116] h0 (.inl (some (.int (ii kk))), h1)) (hs1 : pd_get h1 0 = sr L xs) (hm : pd_get h1 102 = ob 6 fs) (hB : Ca 127 [.ref 102, .int (ii (xs ((i : Int) + 1)))] h1 (.inl (some (.int (ii b))), h2)) (hm2 : pd_get h2 102 = ob 6 fs2) (hT : Ca 107 [.ref 102] h2 (.inl (some (.int (ii kk))), h2)) (ho : pd_get h2 116 = lr 1 o) (ho2 : o 0 = b) (hb : -2147483648 ≤ b ∧ b ≤ 2147483647) (hkk : kk = 0) (hk : ∀ w5 w6 w7 : Value, Rn 201 1951 [.ref 0, .ref 1, .ref 102, .ref 116, .int (ii (i : Int)), w5, w6, w7] [] h2 r) : Rn 201 180 [.ref 0, .ref 1, .ref 102, .ref 116, .int (ii (i : Int)), w5, w6, w7] [] h0 r := by
  refine E_aload pf_201_180 rfl ?_
  refine E_aload pf_201_181 rfl ?_
  refine E_iload pf_201_182 rfl ?_
  refine E_iconst pf_201_184 ?_
  refine E_iadd pf_201_185 ?_
  refine E_sald pf_201_186 hs0 (by omega) ?_
  refine E_aload pf_201_187 rfl ?_
  refine E_c3v pf_201_188 rfl hA ?_
  refine E_istore (lv' := [_, _, _, _, _, _, _, _]) pf_201_191 rfl rfl ?_
  refine E_aload pf_201_193 rfl ?_
  refine E_aload pf_201_194 rfl ?_
  refine E_iload pf_201_195 rfl ?_
  refine E_iconst pf_201_197 ?_
  refine E_iadd pf_201_198 ?_
  refine E_sald pf_201_199 hs1 (by omega) ?_
  refine E_v2v pf_201_200 hm rfl hB ?_
  refine E_istore (lv' := [_, _, _, _, _, _, _, _]) pf_201_203 rfl rfl ?_
  refine E_aload pf_201_205 rfl ?_
  refine E_v1v pf_201_206 hm2 rfl hT ?_
  refine E_iload pf_201_209 rfl ?_
  refine E_icmp_eq_t pf_201_211 (by omega) ?_
  refine E_iload pf_201_216 rfl ?_
  refine E_if_ne_f pf_201_218 (by omega) ?_
  refine E_aload pf_201_221 rfl ?_
  refine E_iconst pf_201_222 ?_
  refine E_lald pf_201_223 ho (by omega) ?_
  refine E_iload pf_201_224 rfl ?_
  refine E_i2l pf_201_226 hb ?_
  refine E_lcmp_eq_t pf_201_227 pf_201_228 (by omega) ?_
  refine E_goto pf_201_233 ?_
  exact hk _ _ _
theorem l0x (hL : (i : Int) + 5 ≤ L) (hL2 : L ≤ 2560) (hx : ∀ q : Int, -2147483648 ≤ xs q ∧ xs q ≤ 2147483647) (hs0 : pd_get h0 0 = sr L xs) (hA : Ca 178 [.ref 1, .int (ii (xs ((i : Int) + 1))), .ref 116] h0 (.inl (some (.int (ii kk))), h1)) (hs1 : pd_get h1 0 = sr L xs) (hm : pd_get h1 102 = ob 6 fs) (hB : Ca 127 [.ref 102, .int (ii (xs ((i : Int) + 1)))] h1 (.inl (some (.int (ii b))), h2)) (hm2 : pd_get h2 102 = ob 6 fs2) (hT : Ca 107 [.ref 102] h2 (.inl (some (.int (ii kk))), h2)) (hkk : 1 ≤ kk ∧ kk ≤ 2) (hk : ∀ w5 w6 w7 : Value, Rn 201 1951 [.ref 0, .ref 1, .ref 102, .ref 116, .int (ii (i : Int)), w5, w6, w7] [] h2 r) : Rn 201 180 [.ref 0, .ref 1, .ref 102, .ref 116, .int (ii (i : Int)), w5, w6, w7] [] h0 r := by
  refine E_aload pf_201_180 rfl ?_
  refine E_aload pf_201_181 rfl ?_
  refine E_iload pf_201_182 rfl ?_
  refine E_iconst pf_201_184 ?_
  refine E_iadd pf_201_185 ?_
  refine E_sald pf_201_186 hs0 (by omega) ?_
  refine E_aload pf_201_187 rfl ?_
  refine E_c3v pf_201_188 rfl hA ?_
  refine E_istore (lv' := [_, _, _, _, _, _, _, _]) pf_201_191 rfl rfl ?_
  refine E_aload pf_201_193 rfl ?_
  refine E_aload pf_201_194 rfl ?_
  refine E_iload pf_201_195 rfl ?_
  refine E_iconst pf_201_197 ?_
  refine E_iadd pf_201_198 ?_
  refine E_sald pf_201_199 hs1 (by omega) ?_
  refine E_v2v pf_201_200 hm rfl hB ?_
  refine E_istore (lv' := [_, _, _, _, _, _, _, _]) pf_201_203 rfl rfl ?_
  refine E_aload pf_201_205 rfl ?_
  refine E_v1v pf_201_206 hm2 rfl hT ?_
  refine E_iload pf_201_209 rfl ?_
  refine E_icmp_eq_t pf_201_211 (by omega) ?_
  refine E_iload pf_201_216 rfl ?_
  refine E_if_ne_t pf_201_218 (by omega) ?_
  refine E_goto pf_201_233 ?_
  exact hk _ _ _
theorem l1 {b0 : Int32} (hL : (i : Int) + 5 ≤ L) (hL2 : L ≤ 2560) (hx : ∀ q : Int, -2147483648 ≤ xs q ∧ xs q ≤ 2147483647) (hs0 : pd_get h0 0 = sr L xs) (hA : Ca 64 [.ref 1] h0 (.inl (some (.int b0)), h1)) (hr : pd_get h0 1 = ob 5 fs3) (hs1 : pd_get h1 0 = sr L xs) (hm : pd_get h1 102 = ob 6 fs) (hB : Ca 128 [.ref 102] h1 (.inl (some (.int b0)), h2)) (hk : Rn 201 1951 [.ref 0, .ref 1, .ref 102, .ref 116, .int (ii (i : Int)), w5, w6, w7] [] h2 r) : Rn 201 236 [.ref 0, .ref 1, .ref 102, .ref 116, .int (ii (i : Int)), w5, w6, w7] [] h0 r := by
  refine E_aload pf_201_236 rfl ?_
  refine E_v1v pf_201_237 hr rfl hA ?_
  refine E_aload pf_201_240 rfl ?_
  refine E_v1v pf_201_241 hm rfl hB ?_
  rw [← ii_self b0]
  refine E_icmp_eq_t pf_201_244 ⟨⟨Int32.le_toInt _, Int32.toInt_le _⟩, ⟨Int32.le_toInt _, Int32.toInt_le _⟩, rfl⟩ ?_
  exact hk
theorem l2 {b0 : Int32} (hL : (i : Int) + 5 ≤ L) (hL2 : L ≤ 2560) (hx : ∀ q : Int, -2147483648 ≤ xs q ∧ xs q ≤ 2147483647) (hs0 : pd_get h0 0 = sr L xs) (hA : Ca 65 [.ref 1] h0 (.inl (some (.int b0)), h1)) (hr : pd_get h0 1 = ob 5 fs3) (hs1 : pd_get h1 0 = sr L xs) (hm : pd_get h1 102 = ob 6 fs) (hB : Ca 141 [.ref 102] h1 (.inl (some (.int b0)), h2)) (hk : Rn 201 1951 [.ref 0, .ref 1, .ref 102, .ref 116, .int (ii (i : Int)), w5, w6, w7] [] h2 r) : Rn 201 249 [.ref 0, .ref 1, .ref 102, .ref 116, .int (ii (i : Int)), w5, w6, w7] [] h0 r := by
  refine E_aload pf_201_249 rfl ?_
  refine E_v1v pf_201_250 hr rfl hA ?_
  refine E_aload pf_201_253 rfl ?_
  refine E_v1v pf_201_254 hm rfl hB ?_
  rw [← ii_self b0]
  refine E_icmp_eq_t pf_201_257 ⟨⟨Int32.le_toInt _, Int32.toInt_le _⟩, ⟨Int32.le_toInt _, Int32.toInt_le _⟩, rfl⟩ ?_
  exact hk
theorem l3 (hL : (i : Int) + 5 ≤ L) (hL2 : L ≤ 2560) (hx : ∀ q : Int, -2147483648 ≤ xs q ∧ xs q ≤ 2147483647) (hs0 : pd_get h0 0 = sr L xs) (hA : Ca 179 [.ref 1, .ref 116] h0 (.inl (some (.int (ii kk))), h1)) (hs1 : pd_get h1 0 = sr L xs) (hm : pd_get h1 102 = ob 6 fs) (hB : Ca 142 [.ref 102] h1 (.inl (some (.int (ii b))), h2)) (hm2 : pd_get h2 102 = ob 6 fs2) (hT : Ca 107 [.ref 102] h2 (.inl (some (.int (ii kk))), h2)) (ho : pd_get h2 116 = lr 1 o) (ho2 : o 0 = b) (hb : -2147483648 ≤ b ∧ b ≤ 2147483647) (hkk : kk = 0) (hk : ∀ w5 w6 w7 : Value, Rn 201 1951 [.ref 0, .ref 1, .ref 102, .ref 116, .int (ii (i : Int)), w5, w6, w7] [] h2 r) : Rn 201 262 [.ref 0, .ref 1, .ref 102, .ref 116, .int (ii (i : Int)), w5, w6, w7] [] h0 r := by
  refine E_aload pf_201_262 rfl ?_
  refine E_aload pf_201_263 rfl ?_
  refine E_c2v pf_201_264 rfl hA ?_
  refine E_istore (lv' := [_, _, _, _, _, _, _, _]) pf_201_267 rfl rfl ?_
  refine E_aload pf_201_269 rfl ?_
  refine E_v1v pf_201_270 hm rfl hB ?_
  refine E_istore (lv' := [_, _, _, _, _, _, _, _]) pf_201_273 rfl rfl ?_
  refine E_aload pf_201_275 rfl ?_
  refine E_v1v pf_201_276 hm2 rfl hT ?_
  refine E_iload pf_201_279 rfl ?_
  refine E_icmp_eq_t pf_201_281 (by omega) ?_
  refine E_iload pf_201_286 rfl ?_
  refine E_if_ne_f pf_201_288 (by omega) ?_
  refine E_aload pf_201_291 rfl ?_
  refine E_iconst pf_201_292 ?_
  refine E_lald pf_201_293 ho (by omega) ?_
  refine E_iload pf_201_294 rfl ?_
  refine E_i2l pf_201_296 hb ?_
  refine E_lcmp_eq_t pf_201_297 pf_201_298 (by omega) ?_
  refine E_goto pf_201_303 ?_
  exact hk _ _ _
theorem l3x (hL : (i : Int) + 5 ≤ L) (hL2 : L ≤ 2560) (hx : ∀ q : Int, -2147483648 ≤ xs q ∧ xs q ≤ 2147483647) (hs0 : pd_get h0 0 = sr L xs) (hA : Ca 179 [.ref 1, .ref 116] h0 (.inl (some (.int (ii kk))), h1)) (hs1 : pd_get h1 0 = sr L xs) (hm : pd_get h1 102 = ob 6 fs) (hB : Ca 142 [.ref 102] h1 (.inl (some (.int (ii b))), h2)) (hm2 : pd_get h2 102 = ob 6 fs2) (hT : Ca 107 [.ref 102] h2 (.inl (some (.int (ii kk))), h2)) (hkk : 1 ≤ kk ∧ kk ≤ 2) (hk : ∀ w5 w6 w7 : Value, Rn 201 1951 [.ref 0, .ref 1, .ref 102, .ref 116, .int (ii (i : Int)), w5, w6, w7] [] h2 r) : Rn 201 262 [.ref 0, .ref 1, .ref 102, .ref 116, .int (ii (i : Int)), w5, w6, w7] [] h0 r := by
  refine E_aload pf_201_262 rfl ?_
  refine E_aload pf_201_263 rfl ?_
  refine E_c2v pf_201_264 rfl hA ?_
  refine E_istore (lv' := [_, _, _, _, _, _, _, _]) pf_201_267 rfl rfl ?_
  refine E_aload pf_201_269 rfl ?_
  refine E_v1v pf_201_270 hm rfl hB ?_
  refine E_istore (lv' := [_, _, _, _, _, _, _, _]) pf_201_273 rfl rfl ?_
  refine E_aload pf_201_275 rfl ?_
  refine E_v1v pf_201_276 hm2 rfl hT ?_
  refine E_iload pf_201_279 rfl ?_
  refine E_icmp_eq_t pf_201_281 (by omega) ?_
  refine E_iload pf_201_286 rfl ?_
  refine E_if_ne_t pf_201_288 (by omega) ?_
  refine E_goto pf_201_303 ?_
  exact hk _ _ _
theorem l4 (hL : (i : Int) + 5 ≤ L) (hL2 : L ≤ 2560) (hx : ∀ q : Int, -2147483648 ≤ xs q ∧ xs q ≤ 2147483647) (hs0 : pd_get h0 0 = sr L xs) (hA : Ca 180 [.ref 1, .int (ii (xs ((i : Int) + 1))), .ref 116] h0 (.inl (some (.int (ii kk))), h1)) (hs1 : pd_get h1 0 = sr L xs) (hm : pd_get h1 102 = ob 6 fs) (hB : Ca 143 [.ref 102, .int (ii (xs ((i : Int) + 1)))] h1 (.inl (some (.int (ii b))), h2)) (hm2 : pd_get h2 102 = ob 6 fs2) (hT : Ca 107 [.ref 102] h2 (.inl (some (.int (ii kk))), h2)) (ho : pd_get h2 116 = lr 1 o) (ho2 : o 0 = b) (hb : -2147483648 ≤ b ∧ b ≤ 2147483647) (hkk : kk = 0) (hk : ∀ w5 w6 w7 : Value, Rn 201 1951 [.ref 0, .ref 1, .ref 102, .ref 116, .int (ii (i : Int)), w5, w6, w7] [] h2 r) : Rn 201 306 [.ref 0, .ref 1, .ref 102, .ref 116, .int (ii (i : Int)), w5, w6, w7] [] h0 r := by
  refine E_aload pf_201_306 rfl ?_
  refine E_aload pf_201_307 rfl ?_
  refine E_iload pf_201_308 rfl ?_
  refine E_iconst pf_201_310 ?_
  refine E_iadd pf_201_311 ?_
  refine E_sald pf_201_312 hs0 (by omega) ?_
  refine E_aload pf_201_313 rfl ?_
  refine E_c3v pf_201_314 rfl hA ?_
  refine E_istore (lv' := [_, _, _, _, _, _, _, _]) pf_201_317 rfl rfl ?_
  refine E_aload pf_201_319 rfl ?_
  refine E_aload pf_201_320 rfl ?_
  refine E_iload pf_201_321 rfl ?_
  refine E_iconst pf_201_323 ?_
  refine E_iadd pf_201_324 ?_
  refine E_sald pf_201_325 hs1 (by omega) ?_
  refine E_v2v pf_201_326 hm rfl hB ?_
  refine E_istore (lv' := [_, _, _, _, _, _, _, _]) pf_201_329 rfl rfl ?_
  refine E_aload pf_201_331 rfl ?_
  refine E_v1v pf_201_332 hm2 rfl hT ?_
  refine E_iload pf_201_335 rfl ?_
  refine E_icmp_eq_t pf_201_337 (by omega) ?_
  refine E_iload pf_201_342 rfl ?_
  refine E_if_ne_f pf_201_344 (by omega) ?_
  refine E_aload pf_201_347 rfl ?_
  refine E_iconst pf_201_348 ?_
  refine E_lald pf_201_349 ho (by omega) ?_
  refine E_iload pf_201_350 rfl ?_
  refine E_i2l pf_201_352 hb ?_
  refine E_lcmp_eq_t pf_201_353 pf_201_354 (by omega) ?_
  refine E_goto pf_201_359 ?_
  exact hk _ _ _
theorem l4x (hL : (i : Int) + 5 ≤ L) (hL2 : L ≤ 2560) (hx : ∀ q : Int, -2147483648 ≤ xs q ∧ xs q ≤ 2147483647) (hs0 : pd_get h0 0 = sr L xs) (hA : Ca 180 [.ref 1, .int (ii (xs ((i : Int) + 1))), .ref 116] h0 (.inl (some (.int (ii kk))), h1)) (hs1 : pd_get h1 0 = sr L xs) (hm : pd_get h1 102 = ob 6 fs) (hB : Ca 143 [.ref 102, .int (ii (xs ((i : Int) + 1)))] h1 (.inl (some (.int (ii b))), h2)) (hm2 : pd_get h2 102 = ob 6 fs2) (hT : Ca 107 [.ref 102] h2 (.inl (some (.int (ii kk))), h2)) (hkk : 1 ≤ kk ∧ kk ≤ 2) (hk : ∀ w5 w6 w7 : Value, Rn 201 1951 [.ref 0, .ref 1, .ref 102, .ref 116, .int (ii (i : Int)), w5, w6, w7] [] h2 r) : Rn 201 306 [.ref 0, .ref 1, .ref 102, .ref 116, .int (ii (i : Int)), w5, w6, w7] [] h0 r := by
  refine E_aload pf_201_306 rfl ?_
  refine E_aload pf_201_307 rfl ?_
  refine E_iload pf_201_308 rfl ?_
  refine E_iconst pf_201_310 ?_
  refine E_iadd pf_201_311 ?_
  refine E_sald pf_201_312 hs0 (by omega) ?_
  refine E_aload pf_201_313 rfl ?_
  refine E_c3v pf_201_314 rfl hA ?_
  refine E_istore (lv' := [_, _, _, _, _, _, _, _]) pf_201_317 rfl rfl ?_
  refine E_aload pf_201_319 rfl ?_
  refine E_aload pf_201_320 rfl ?_
  refine E_iload pf_201_321 rfl ?_
  refine E_iconst pf_201_323 ?_
  refine E_iadd pf_201_324 ?_
  refine E_sald pf_201_325 hs1 (by omega) ?_
  refine E_v2v pf_201_326 hm rfl hB ?_
  refine E_istore (lv' := [_, _, _, _, _, _, _, _]) pf_201_329 rfl rfl ?_
  refine E_aload pf_201_331 rfl ?_
  refine E_v1v pf_201_332 hm2 rfl hT ?_
  refine E_iload pf_201_335 rfl ?_
  refine E_icmp_eq_t pf_201_337 (by omega) ?_
  refine E_iload pf_201_342 rfl ?_
  refine E_if_ne_t pf_201_344 (by omega) ?_
  refine E_goto pf_201_359 ?_
  exact hk _ _ _
theorem l5 (hL : (i : Int) + 5 ≤ L) (hL2 : L ≤ 2560) (hx : ∀ q : Int, -2147483648 ≤ xs q ∧ xs q ≤ 2147483647) (hs0 : pd_get h0 0 = sr L xs) (hA : Ca 181 [.ref 1, .int (ii (xs ((i : Int) + 1))), .int (ii (xs ((i : Int) + 2))), .ref 116] h0 (.inl (some (.int (ii kk))), h1)) (hs1 : pd_get h1 0 = sr L xs) (hm : pd_get h1 102 = ob 6 fs) (hB : Ca 144 [.ref 102, .int (ii (xs ((i : Int) + 1))), .int (ii (xs ((i : Int) + 2)))] h1 (.inl (some (.int (ii b))), h2)) (hm2 : pd_get h2 102 = ob 6 fs2) (hT : Ca 107 [.ref 102] h2 (.inl (some (.int (ii kk))), h2)) (ho : pd_get h2 116 = lr 1 o) (ho2 : o 0 = b) (hb : -2147483648 ≤ b ∧ b ≤ 2147483647) (hkk : kk = 0) (hk : ∀ w5 w6 w7 : Value, Rn 201 1951 [.ref 0, .ref 1, .ref 102, .ref 116, .int (ii (i : Int)), w5, w6, w7] [] h2 r) : Rn 201 362 [.ref 0, .ref 1, .ref 102, .ref 116, .int (ii (i : Int)), w5, w6, w7] [] h0 r := by
  refine E_aload pf_201_362 rfl ?_
  refine E_aload pf_201_363 rfl ?_
  refine E_iload pf_201_364 rfl ?_
  refine E_iconst pf_201_366 ?_
  refine E_iadd pf_201_367 ?_
  refine E_sald pf_201_368 hs0 (by omega) ?_
  refine E_aload pf_201_369 rfl ?_
  refine E_iload pf_201_370 rfl ?_
  refine E_iconst pf_201_372 ?_
  refine E_iadd pf_201_373 ?_
  refine E_sald pf_201_374 hs0 (by omega) ?_
  refine E_aload pf_201_375 rfl ?_
  refine E_c4v pf_201_376 rfl hA ?_
  refine E_istore (lv' := [_, _, _, _, _, _, _, _]) pf_201_379 rfl rfl ?_
  refine E_aload pf_201_381 rfl ?_
  refine E_aload pf_201_382 rfl ?_
  refine E_iload pf_201_383 rfl ?_
  refine E_iconst pf_201_385 ?_
  refine E_iadd pf_201_386 ?_
  refine E_sald pf_201_387 hs1 (by omega) ?_
  refine E_aload pf_201_388 rfl ?_
  refine E_iload pf_201_389 rfl ?_
  refine E_iconst pf_201_391 ?_
  refine E_iadd pf_201_392 ?_
  refine E_sald pf_201_393 hs1 (by omega) ?_
  refine E_v3v pf_201_394 hm rfl hB ?_
  refine E_istore (lv' := [_, _, _, _, _, _, _, _]) pf_201_397 rfl rfl ?_
  refine E_aload pf_201_399 rfl ?_
  refine E_v1v pf_201_400 hm2 rfl hT ?_
  refine E_iload pf_201_403 rfl ?_
  refine E_icmp_eq_t pf_201_405 (by omega) ?_
  refine E_iload pf_201_410 rfl ?_
  refine E_if_ne_f pf_201_412 (by omega) ?_
  refine E_aload pf_201_415 rfl ?_
  refine E_iconst pf_201_416 ?_
  refine E_lald pf_201_417 ho (by omega) ?_
  refine E_iload pf_201_418 rfl ?_
  refine E_i2l pf_201_420 hb ?_
  refine E_lcmp_eq_t pf_201_421 pf_201_422 (by omega) ?_
  refine E_goto pf_201_427 ?_
  exact hk _ _ _
theorem l5x (hL : (i : Int) + 5 ≤ L) (hL2 : L ≤ 2560) (hx : ∀ q : Int, -2147483648 ≤ xs q ∧ xs q ≤ 2147483647) (hs0 : pd_get h0 0 = sr L xs) (hA : Ca 181 [.ref 1, .int (ii (xs ((i : Int) + 1))), .int (ii (xs ((i : Int) + 2))), .ref 116] h0 (.inl (some (.int (ii kk))), h1)) (hs1 : pd_get h1 0 = sr L xs) (hm : pd_get h1 102 = ob 6 fs) (hB : Ca 144 [.ref 102, .int (ii (xs ((i : Int) + 1))), .int (ii (xs ((i : Int) + 2)))] h1 (.inl (some (.int (ii b))), h2)) (hm2 : pd_get h2 102 = ob 6 fs2) (hT : Ca 107 [.ref 102] h2 (.inl (some (.int (ii kk))), h2)) (hkk : 1 ≤ kk ∧ kk ≤ 2) (hk : ∀ w5 w6 w7 : Value, Rn 201 1951 [.ref 0, .ref 1, .ref 102, .ref 116, .int (ii (i : Int)), w5, w6, w7] [] h2 r) : Rn 201 362 [.ref 0, .ref 1, .ref 102, .ref 116, .int (ii (i : Int)), w5, w6, w7] [] h0 r := by
  refine E_aload pf_201_362 rfl ?_
  refine E_aload pf_201_363 rfl ?_
  refine E_iload pf_201_364 rfl ?_
  refine E_iconst pf_201_366 ?_
  refine E_iadd pf_201_367 ?_
  refine E_sald pf_201_368 hs0 (by omega) ?_
  refine E_aload pf_201_369 rfl ?_
  refine E_iload pf_201_370 rfl ?_
  refine E_iconst pf_201_372 ?_
  refine E_iadd pf_201_373 ?_
  refine E_sald pf_201_374 hs0 (by omega) ?_
  refine E_aload pf_201_375 rfl ?_
  refine E_c4v pf_201_376 rfl hA ?_
  refine E_istore (lv' := [_, _, _, _, _, _, _, _]) pf_201_379 rfl rfl ?_
  refine E_aload pf_201_381 rfl ?_
  refine E_aload pf_201_382 rfl ?_
  refine E_iload pf_201_383 rfl ?_
  refine E_iconst pf_201_385 ?_
  refine E_iadd pf_201_386 ?_
  refine E_sald pf_201_387 hs1 (by omega) ?_
  refine E_aload pf_201_388 rfl ?_
  refine E_iload pf_201_389 rfl ?_
  refine E_iconst pf_201_391 ?_
  refine E_iadd pf_201_392 ?_
  refine E_sald pf_201_393 hs1 (by omega) ?_
  refine E_v3v pf_201_394 hm rfl hB ?_
  refine E_istore (lv' := [_, _, _, _, _, _, _, _]) pf_201_397 rfl rfl ?_
  refine E_aload pf_201_399 rfl ?_
  refine E_v1v pf_201_400 hm2 rfl hT ?_
  refine E_iload pf_201_403 rfl ?_
  refine E_icmp_eq_t pf_201_405 (by omega) ?_
  refine E_iload pf_201_410 rfl ?_
  refine E_if_ne_t pf_201_412 (by omega) ?_
  refine E_goto pf_201_427 ?_
  exact hk _ _ _
theorem l6 (hL : (i : Int) + 5 ≤ L) (hL2 : L ≤ 2560) (hx : ∀ q : Int, -2147483648 ≤ xs q ∧ xs q ≤ 2147483647) (hs0 : pd_get h0 0 = sr L xs) (hA : Ca 182 [.ref 1, .int (ii (xs ((i : Int) + 1))), .int (ii (xs ((i : Int) + 2))), .ref 116] h0 (.inl (some (.int (ii kk))), h1)) (hs1 : pd_get h1 0 = sr L xs) (hm : pd_get h1 102 = ob 6 fs) (hB : Ca 147 [.ref 102, .int (ii (xs ((i : Int) + 1))), .int (ii (xs ((i : Int) + 2)))] h1 (.inl (some (.int (ii b))), h2)) (hm2 : pd_get h2 102 = ob 6 fs2) (hT : Ca 107 [.ref 102] h2 (.inl (some (.int (ii kk))), h2)) (ho : pd_get h2 116 = lr 1 o) (ho2 : o 0 = b) (hb : -2147483648 ≤ b ∧ b ≤ 2147483647) (hkk : kk = 0) (hk : ∀ w5 w6 w7 : Value, Rn 201 1951 [.ref 0, .ref 1, .ref 102, .ref 116, .int (ii (i : Int)), w5, w6, w7] [] h2 r) : Rn 201 430 [.ref 0, .ref 1, .ref 102, .ref 116, .int (ii (i : Int)), w5, w6, w7] [] h0 r := by
  refine E_aload pf_201_430 rfl ?_
  refine E_aload pf_201_431 rfl ?_
  refine E_iload pf_201_432 rfl ?_
  refine E_iconst pf_201_434 ?_
  refine E_iadd pf_201_435 ?_
  refine E_sald pf_201_436 hs0 (by omega) ?_
  refine E_aload pf_201_437 rfl ?_
  refine E_iload pf_201_438 rfl ?_
  refine E_iconst pf_201_440 ?_
  refine E_iadd pf_201_441 ?_
  refine E_sald pf_201_442 hs0 (by omega) ?_
  refine E_aload pf_201_443 rfl ?_
  refine E_c4v pf_201_444 rfl hA ?_
  refine E_istore (lv' := [_, _, _, _, _, _, _, _]) pf_201_447 rfl rfl ?_
  refine E_aload pf_201_449 rfl ?_
  refine E_aload pf_201_450 rfl ?_
  refine E_iload pf_201_451 rfl ?_
  refine E_iconst pf_201_453 ?_
  refine E_iadd pf_201_454 ?_
  refine E_sald pf_201_455 hs1 (by omega) ?_
  refine E_aload pf_201_456 rfl ?_
  refine E_iload pf_201_457 rfl ?_
  refine E_iconst pf_201_459 ?_
  refine E_iadd pf_201_460 ?_
  refine E_sald pf_201_461 hs1 (by omega) ?_
  refine E_v3v pf_201_462 hm rfl hB ?_
  refine E_istore (lv' := [_, _, _, _, _, _, _, _]) pf_201_465 rfl rfl ?_
  refine E_aload pf_201_467 rfl ?_
  refine E_v1v pf_201_468 hm2 rfl hT ?_
  refine E_iload pf_201_471 rfl ?_
  refine E_icmp_eq_t pf_201_473 (by omega) ?_
  refine E_iload pf_201_478 rfl ?_
  refine E_if_ne_f pf_201_480 (by omega) ?_
  refine E_aload pf_201_483 rfl ?_
  refine E_iconst pf_201_484 ?_
  refine E_lald pf_201_485 ho (by omega) ?_
  refine E_iload pf_201_486 rfl ?_
  refine E_i2l pf_201_488 hb ?_
  refine E_lcmp_eq_t pf_201_489 pf_201_490 (by omega) ?_
  refine E_goto pf_201_495 ?_
  exact hk _ _ _
theorem l6x (hL : (i : Int) + 5 ≤ L) (hL2 : L ≤ 2560) (hx : ∀ q : Int, -2147483648 ≤ xs q ∧ xs q ≤ 2147483647) (hs0 : pd_get h0 0 = sr L xs) (hA : Ca 182 [.ref 1, .int (ii (xs ((i : Int) + 1))), .int (ii (xs ((i : Int) + 2))), .ref 116] h0 (.inl (some (.int (ii kk))), h1)) (hs1 : pd_get h1 0 = sr L xs) (hm : pd_get h1 102 = ob 6 fs) (hB : Ca 147 [.ref 102, .int (ii (xs ((i : Int) + 1))), .int (ii (xs ((i : Int) + 2)))] h1 (.inl (some (.int (ii b))), h2)) (hm2 : pd_get h2 102 = ob 6 fs2) (hT : Ca 107 [.ref 102] h2 (.inl (some (.int (ii kk))), h2)) (hkk : 1 ≤ kk ∧ kk ≤ 2) (hk : ∀ w5 w6 w7 : Value, Rn 201 1951 [.ref 0, .ref 1, .ref 102, .ref 116, .int (ii (i : Int)), w5, w6, w7] [] h2 r) : Rn 201 430 [.ref 0, .ref 1, .ref 102, .ref 116, .int (ii (i : Int)), w5, w6, w7] [] h0 r := by
  refine E_aload pf_201_430 rfl ?_
  refine E_aload pf_201_431 rfl ?_
  refine E_iload pf_201_432 rfl ?_
  refine E_iconst pf_201_434 ?_
  refine E_iadd pf_201_435 ?_
  refine E_sald pf_201_436 hs0 (by omega) ?_
  refine E_aload pf_201_437 rfl ?_
  refine E_iload pf_201_438 rfl ?_
  refine E_iconst pf_201_440 ?_
  refine E_iadd pf_201_441 ?_
  refine E_sald pf_201_442 hs0 (by omega) ?_
  refine E_aload pf_201_443 rfl ?_
  refine E_c4v pf_201_444 rfl hA ?_
  refine E_istore (lv' := [_, _, _, _, _, _, _, _]) pf_201_447 rfl rfl ?_
  refine E_aload pf_201_449 rfl ?_
  refine E_aload pf_201_450 rfl ?_
  refine E_iload pf_201_451 rfl ?_
  refine E_iconst pf_201_453 ?_
  refine E_iadd pf_201_454 ?_
  refine E_sald pf_201_455 hs1 (by omega) ?_
  refine E_aload pf_201_456 rfl ?_
  refine E_iload pf_201_457 rfl ?_
  refine E_iconst pf_201_459 ?_
  refine E_iadd pf_201_460 ?_
  refine E_sald pf_201_461 hs1 (by omega) ?_
  refine E_v3v pf_201_462 hm rfl hB ?_
  refine E_istore (lv' := [_, _, _, _, _, _, _, _]) pf_201_465 rfl rfl ?_
  refine E_aload pf_201_467 rfl ?_
  refine E_v1v pf_201_468 hm2 rfl hT ?_
  refine E_iload pf_201_471 rfl ?_
  refine E_icmp_eq_t pf_201_473 (by omega) ?_
  refine E_iload pf_201_478 rfl ?_
  refine E_if_ne_t pf_201_480 (by omega) ?_
  refine E_goto pf_201_495 ?_
  exact hk _ _ _
theorem l7 (hL : (i : Int) + 5 ≤ L) (hL2 : L ≤ 2560) (hx : ∀ q : Int, -2147483648 ≤ xs q ∧ xs q ≤ 2147483647) (hs0 : pd_get h0 0 = sr L xs) (hA : Ca 183 [.ref 1, .int (ii (xs ((i : Int) + 1))), .int (ii (xs ((i : Int) + 2))), .ref 116] h0 (.inl (some (.int (ii kk))), h1)) (hs1 : pd_get h1 0 = sr L xs) (hm : pd_get h1 102 = ob 6 fs) (hB : Ca 148 [.ref 102, .int (ii (xs ((i : Int) + 1))), .int (ii (xs ((i : Int) + 2)))] h1 (.inl (some (.int (ii b))), h2)) (hm2 : pd_get h2 102 = ob 6 fs2) (hT : Ca 107 [.ref 102] h2 (.inl (some (.int (ii kk))), h2)) (ho : pd_get h2 116 = lr 1 o) (ho2 : o 0 = b) (hb : -2147483648 ≤ b ∧ b ≤ 2147483647) (hkk : kk = 0) (hk : ∀ w5 w6 w7 : Value, Rn 201 1951 [.ref 0, .ref 1, .ref 102, .ref 116, .int (ii (i : Int)), w5, w6, w7] [] h2 r) : Rn 201 498 [.ref 0, .ref 1, .ref 102, .ref 116, .int (ii (i : Int)), w5, w6, w7] [] h0 r := by
  refine E_aload pf_201_498 rfl ?_
  refine E_aload pf_201_499 rfl ?_
  refine E_iload pf_201_500 rfl ?_
  refine E_iconst pf_201_502 ?_
  refine E_iadd pf_201_503 ?_
  refine E_sald pf_201_504 hs0 (by omega) ?_
  refine E_aload pf_201_505 rfl ?_
  refine E_iload pf_201_506 rfl ?_
  refine E_iconst pf_201_508 ?_
  refine E_iadd pf_201_509 ?_
  refine E_sald pf_201_510 hs0 (by omega) ?_
  refine E_aload pf_201_511 rfl ?_
  refine E_c4v pf_201_512 rfl hA ?_
  refine E_istore (lv' := [_, _, _, _, _, _, _, _]) pf_201_515 rfl rfl ?_
  refine E_aload pf_201_517 rfl ?_
  refine E_aload pf_201_518 rfl ?_
  refine E_iload pf_201_519 rfl ?_
  refine E_iconst pf_201_521 ?_
  refine E_iadd pf_201_522 ?_
  refine E_sald pf_201_523 hs1 (by omega) ?_
  refine E_aload pf_201_524 rfl ?_
  refine E_iload pf_201_525 rfl ?_
  refine E_iconst pf_201_527 ?_
  refine E_iadd pf_201_528 ?_
  refine E_sald pf_201_529 hs1 (by omega) ?_
  refine E_v3v pf_201_530 hm rfl hB ?_
  refine E_istore (lv' := [_, _, _, _, _, _, _, _]) pf_201_533 rfl rfl ?_
  refine E_aload pf_201_535 rfl ?_
  refine E_v1v pf_201_536 hm2 rfl hT ?_
  refine E_iload pf_201_539 rfl ?_
  refine E_icmp_eq_t pf_201_541 (by omega) ?_
  refine E_iload pf_201_546 rfl ?_
  refine E_if_ne_f pf_201_548 (by omega) ?_
  refine E_aload pf_201_551 rfl ?_
  refine E_iconst pf_201_552 ?_
  refine E_lald pf_201_553 ho (by omega) ?_
  refine E_iload pf_201_554 rfl ?_
  refine E_i2l pf_201_556 hb ?_
  refine E_lcmp_eq_t pf_201_557 pf_201_558 (by omega) ?_
  refine E_goto pf_201_563 ?_
  exact hk _ _ _
theorem l7x (hL : (i : Int) + 5 ≤ L) (hL2 : L ≤ 2560) (hx : ∀ q : Int, -2147483648 ≤ xs q ∧ xs q ≤ 2147483647) (hs0 : pd_get h0 0 = sr L xs) (hA : Ca 183 [.ref 1, .int (ii (xs ((i : Int) + 1))), .int (ii (xs ((i : Int) + 2))), .ref 116] h0 (.inl (some (.int (ii kk))), h1)) (hs1 : pd_get h1 0 = sr L xs) (hm : pd_get h1 102 = ob 6 fs) (hB : Ca 148 [.ref 102, .int (ii (xs ((i : Int) + 1))), .int (ii (xs ((i : Int) + 2)))] h1 (.inl (some (.int (ii b))), h2)) (hm2 : pd_get h2 102 = ob 6 fs2) (hT : Ca 107 [.ref 102] h2 (.inl (some (.int (ii kk))), h2)) (hkk : 1 ≤ kk ∧ kk ≤ 2) (hk : ∀ w5 w6 w7 : Value, Rn 201 1951 [.ref 0, .ref 1, .ref 102, .ref 116, .int (ii (i : Int)), w5, w6, w7] [] h2 r) : Rn 201 498 [.ref 0, .ref 1, .ref 102, .ref 116, .int (ii (i : Int)), w5, w6, w7] [] h0 r := by
  refine E_aload pf_201_498 rfl ?_
  refine E_aload pf_201_499 rfl ?_
  refine E_iload pf_201_500 rfl ?_
  refine E_iconst pf_201_502 ?_
  refine E_iadd pf_201_503 ?_
  refine E_sald pf_201_504 hs0 (by omega) ?_
  refine E_aload pf_201_505 rfl ?_
  refine E_iload pf_201_506 rfl ?_
  refine E_iconst pf_201_508 ?_
  refine E_iadd pf_201_509 ?_
  refine E_sald pf_201_510 hs0 (by omega) ?_
  refine E_aload pf_201_511 rfl ?_
  refine E_c4v pf_201_512 rfl hA ?_
  refine E_istore (lv' := [_, _, _, _, _, _, _, _]) pf_201_515 rfl rfl ?_
  refine E_aload pf_201_517 rfl ?_
  refine E_aload pf_201_518 rfl ?_
  refine E_iload pf_201_519 rfl ?_
  refine E_iconst pf_201_521 ?_
  refine E_iadd pf_201_522 ?_
  refine E_sald pf_201_523 hs1 (by omega) ?_
  refine E_aload pf_201_524 rfl ?_
  refine E_iload pf_201_525 rfl ?_
  refine E_iconst pf_201_527 ?_
  refine E_iadd pf_201_528 ?_
  refine E_sald pf_201_529 hs1 (by omega) ?_
  refine E_v3v pf_201_530 hm rfl hB ?_
  refine E_istore (lv' := [_, _, _, _, _, _, _, _]) pf_201_533 rfl rfl ?_
  refine E_aload pf_201_535 rfl ?_
  refine E_v1v pf_201_536 hm2 rfl hT ?_
  refine E_iload pf_201_539 rfl ?_
  refine E_icmp_eq_t pf_201_541 (by omega) ?_
  refine E_iload pf_201_546 rfl ?_
  refine E_if_ne_t pf_201_548 (by omega) ?_
  refine E_goto pf_201_563 ?_
  exact hk _ _ _
theorem l8 {b0 : Int32} (hL : (i : Int) + 5 ≤ L) (hL2 : L ≤ 2560) (hx : ∀ q : Int, -2147483648 ≤ xs q ∧ xs q ≤ 2147483647) (hs0 : pd_get h0 0 = sr L xs) (hA : Ca 71 [.ref 1, .int (ii (xs ((i : Int) + 1))), .int (ii (xs ((i : Int) + 2))), .int (ii (xs ((i : Int) + 3))), .int (ii (xs ((i : Int) + 4)))] h0 (.inl (some (.int b0)), h1)) (hr : pd_get h0 1 = ob 5 fs3) (hs1 : pd_get h1 0 = sr L xs) (hm : pd_get h1 102 = ob 6 fs) (hB : Ca 149 [.ref 102, .int (ii (xs ((i : Int) + 1))), .int (ii (xs ((i : Int) + 2))), .int (ii (xs ((i : Int) + 3))), .int (ii (xs ((i : Int) + 4)))] h1 (.inl (some (.int b0)), h2)) (hk : Rn 201 1951 [.ref 0, .ref 1, .ref 102, .ref 116, .int (ii (i : Int)), w5, w6, w7] [] h2 r) : Rn 201 566 [.ref 0, .ref 1, .ref 102, .ref 116, .int (ii (i : Int)), w5, w6, w7] [] h0 r := by
  refine E_aload pf_201_566 rfl ?_
  refine E_aload pf_201_567 rfl ?_
  refine E_iload pf_201_568 rfl ?_
  refine E_iconst pf_201_570 ?_
  refine E_iadd pf_201_571 ?_
  refine E_sald pf_201_572 hs0 (by omega) ?_
  refine E_aload pf_201_573 rfl ?_
  refine E_iload pf_201_574 rfl ?_
  refine E_iconst pf_201_576 ?_
  refine E_iadd pf_201_577 ?_
  refine E_sald pf_201_578 hs0 (by omega) ?_
  refine E_aload pf_201_579 rfl ?_
  refine E_iload pf_201_580 rfl ?_
  refine E_iconst pf_201_582 ?_
  refine E_iadd pf_201_583 ?_
  refine E_sald pf_201_584 hs0 (by omega) ?_
  refine E_aload pf_201_585 rfl ?_
  refine E_iload pf_201_586 rfl ?_
  refine E_iconst pf_201_588 ?_
  refine E_iadd pf_201_589 ?_
  refine E_sald pf_201_590 hs0 (by omega) ?_
  refine E_v5v pf_201_591 hr rfl hA ?_
  refine E_aload pf_201_594 rfl ?_
  refine E_aload pf_201_595 rfl ?_
  refine E_iload pf_201_596 rfl ?_
  refine E_iconst pf_201_598 ?_
  refine E_iadd pf_201_599 ?_
  refine E_sald pf_201_600 hs1 (by omega) ?_
  refine E_aload pf_201_601 rfl ?_
  refine E_iload pf_201_602 rfl ?_
  refine E_iconst pf_201_604 ?_
  refine E_iadd pf_201_605 ?_
  refine E_sald pf_201_606 hs1 (by omega) ?_
  refine E_aload pf_201_607 rfl ?_
  refine E_iload pf_201_608 rfl ?_
  refine E_iconst pf_201_610 ?_
  refine E_iadd pf_201_611 ?_
  refine E_sald pf_201_612 hs1 (by omega) ?_
  refine E_aload pf_201_613 rfl ?_
  refine E_iload pf_201_614 rfl ?_
  refine E_iconst pf_201_616 ?_
  refine E_iadd pf_201_617 ?_
  refine E_sald pf_201_618 hs1 (by omega) ?_
  refine E_v5v pf_201_619 hm rfl hB ?_
  rw [← ii_self b0]
  refine E_icmp_eq_t pf_201_622 ⟨⟨Int32.le_toInt _, Int32.toInt_le _⟩, ⟨Int32.le_toInt _, Int32.toInt_le _⟩, rfl⟩ ?_
  exact hk
theorem l9 (hL : (i : Int) + 5 ≤ L) (hL2 : L ≤ 2560) (hx : ∀ q : Int, -2147483648 ≤ xs q ∧ xs q ≤ 2147483647) (hs0 : pd_get h0 0 = sr L xs) (hA : Ca 184 [.ref 1, .int (ii (xs ((i : Int) + 1))), .ref 116] h0 (.inl (some (.int (ii kk))), h1)) (hs1 : pd_get h1 0 = sr L xs) (hm : pd_get h1 102 = ob 6 fs) (hB : Ca 151 [.ref 102, .int (ii (xs ((i : Int) + 1)))] h1 (.inl (some (.int (ii b))), h2)) (hm2 : pd_get h2 102 = ob 6 fs2) (hT : Ca 107 [.ref 102] h2 (.inl (some (.int (ii kk))), h2)) (ho : pd_get h2 116 = lr 1 o) (ho2 : o 0 = b) (hb : -2147483648 ≤ b ∧ b ≤ 2147483647) (hkk : kk = 0) (hk : ∀ w5 w6 w7 : Value, Rn 201 1951 [.ref 0, .ref 1, .ref 102, .ref 116, .int (ii (i : Int)), w5, w6, w7] [] h2 r) : Rn 201 627 [.ref 0, .ref 1, .ref 102, .ref 116, .int (ii (i : Int)), w5, w6, w7] [] h0 r := by
  refine E_aload pf_201_627 rfl ?_
  refine E_aload pf_201_628 rfl ?_
  refine E_iload pf_201_629 rfl ?_
  refine E_iconst pf_201_631 ?_
  refine E_iadd pf_201_632 ?_
  refine E_sald pf_201_633 hs0 (by omega) ?_
  refine E_aload pf_201_634 rfl ?_
  refine E_c3v pf_201_635 rfl hA ?_
  refine E_istore (lv' := [_, _, _, _, _, _, _, _]) pf_201_638 rfl rfl ?_
  refine E_aload pf_201_640 rfl ?_
  refine E_aload pf_201_641 rfl ?_
  refine E_iload pf_201_642 rfl ?_
  refine E_iconst pf_201_644 ?_
  refine E_iadd pf_201_645 ?_
  refine E_sald pf_201_646 hs1 (by omega) ?_
  refine E_v2v pf_201_647 hm rfl hB ?_
  refine E_istore (lv' := [_, _, _, _, _, _, _, _]) pf_201_650 rfl rfl ?_
  refine E_aload pf_201_652 rfl ?_
  refine E_v1v pf_201_653 hm2 rfl hT ?_
  refine E_iload pf_201_656 rfl ?_
  refine E_icmp_eq_t pf_201_658 (by omega) ?_
  refine E_iload pf_201_663 rfl ?_
  refine E_if_ne_f pf_201_665 (by omega) ?_
  refine E_aload pf_201_668 rfl ?_
  refine E_iconst pf_201_669 ?_
  refine E_lald pf_201_670 ho (by omega) ?_
  refine E_iload pf_201_671 rfl ?_
  refine E_i2l pf_201_673 hb ?_
  refine E_lcmp_eq_t pf_201_674 pf_201_675 (by omega) ?_
  refine E_goto pf_201_680 ?_
  exact hk _ _ _
theorem l9x (hL : (i : Int) + 5 ≤ L) (hL2 : L ≤ 2560) (hx : ∀ q : Int, -2147483648 ≤ xs q ∧ xs q ≤ 2147483647) (hs0 : pd_get h0 0 = sr L xs) (hA : Ca 184 [.ref 1, .int (ii (xs ((i : Int) + 1))), .ref 116] h0 (.inl (some (.int (ii kk))), h1)) (hs1 : pd_get h1 0 = sr L xs) (hm : pd_get h1 102 = ob 6 fs) (hB : Ca 151 [.ref 102, .int (ii (xs ((i : Int) + 1)))] h1 (.inl (some (.int (ii b))), h2)) (hm2 : pd_get h2 102 = ob 6 fs2) (hT : Ca 107 [.ref 102] h2 (.inl (some (.int (ii kk))), h2)) (hkk : 1 ≤ kk ∧ kk ≤ 2) (hk : ∀ w5 w6 w7 : Value, Rn 201 1951 [.ref 0, .ref 1, .ref 102, .ref 116, .int (ii (i : Int)), w5, w6, w7] [] h2 r) : Rn 201 627 [.ref 0, .ref 1, .ref 102, .ref 116, .int (ii (i : Int)), w5, w6, w7] [] h0 r := by
  refine E_aload pf_201_627 rfl ?_
  refine E_aload pf_201_628 rfl ?_
  refine E_iload pf_201_629 rfl ?_
  refine E_iconst pf_201_631 ?_
  refine E_iadd pf_201_632 ?_
  refine E_sald pf_201_633 hs0 (by omega) ?_
  refine E_aload pf_201_634 rfl ?_
  refine E_c3v pf_201_635 rfl hA ?_
  refine E_istore (lv' := [_, _, _, _, _, _, _, _]) pf_201_638 rfl rfl ?_
  refine E_aload pf_201_640 rfl ?_
  refine E_aload pf_201_641 rfl ?_
  refine E_iload pf_201_642 rfl ?_
  refine E_iconst pf_201_644 ?_
  refine E_iadd pf_201_645 ?_
  refine E_sald pf_201_646 hs1 (by omega) ?_
  refine E_v2v pf_201_647 hm rfl hB ?_
  refine E_istore (lv' := [_, _, _, _, _, _, _, _]) pf_201_650 rfl rfl ?_
  refine E_aload pf_201_652 rfl ?_
  refine E_v1v pf_201_653 hm2 rfl hT ?_
  refine E_iload pf_201_656 rfl ?_
  refine E_icmp_eq_t pf_201_658 (by omega) ?_
  refine E_iload pf_201_663 rfl ?_
  refine E_if_ne_t pf_201_665 (by omega) ?_
  refine E_goto pf_201_680 ?_
  exact hk _ _ _
theorem l10 (hL : (i : Int) + 5 ≤ L) (hL2 : L ≤ 2560) (hx : ∀ q : Int, -2147483648 ≤ xs q ∧ xs q ≤ 2147483647) (hs0 : pd_get h0 0 = sr L xs) (hA : Ca 185 [.ref 1, .int (ii (xs ((i : Int) + 1))), .int (ii (xs ((i : Int) + 2))), .ref 116] h0 (.inl (some (.int (ii kk))), h1)) (hs1 : pd_get h1 0 = sr L xs) (hm : pd_get h1 102 = ob 6 fs) (hB : Ca 152 [.ref 102, .int (ii (xs ((i : Int) + 1))), .int (ii (xs ((i : Int) + 2)))] h1 (.inl (some (.int (ii b))), h2)) (hm2 : pd_get h2 102 = ob 6 fs2) (hT : Ca 107 [.ref 102] h2 (.inl (some (.int (ii kk))), h2)) (ho : pd_get h2 116 = lr 1 o) (ho2 : o 0 = b) (hb : -2147483648 ≤ b ∧ b ≤ 2147483647) (hkk : kk = 0) (hk : ∀ w5 w6 w7 : Value, Rn 201 1951 [.ref 0, .ref 1, .ref 102, .ref 116, .int (ii (i : Int)), w5, w6, w7] [] h2 r) : Rn 201 683 [.ref 0, .ref 1, .ref 102, .ref 116, .int (ii (i : Int)), w5, w6, w7] [] h0 r := by
  refine E_aload pf_201_683 rfl ?_
  refine E_aload pf_201_684 rfl ?_
  refine E_iload pf_201_685 rfl ?_
  refine E_iconst pf_201_687 ?_
  refine E_iadd pf_201_688 ?_
  refine E_sald pf_201_689 hs0 (by omega) ?_
  refine E_aload pf_201_690 rfl ?_
  refine E_iload pf_201_691 rfl ?_
  refine E_iconst pf_201_693 ?_
  refine E_iadd pf_201_694 ?_
  refine E_sald pf_201_695 hs0 (by omega) ?_
  refine E_aload pf_201_696 rfl ?_
  refine E_c4v pf_201_697 rfl hA ?_
  refine E_istore (lv' := [_, _, _, _, _, _, _, _]) pf_201_700 rfl rfl ?_
  refine E_aload pf_201_702 rfl ?_
  refine E_aload pf_201_703 rfl ?_
  refine E_iload pf_201_704 rfl ?_
  refine E_iconst pf_201_706 ?_
  refine E_iadd pf_201_707 ?_
  refine E_sald pf_201_708 hs1 (by omega) ?_
  refine E_aload pf_201_709 rfl ?_
  refine E_iload pf_201_710 rfl ?_
  refine E_iconst pf_201_712 ?_
  refine E_iadd pf_201_713 ?_
  refine E_sald pf_201_714 hs1 (by omega) ?_
  refine E_v3v pf_201_715 hm rfl hB ?_
  refine E_istore (lv' := [_, _, _, _, _, _, _, _]) pf_201_718 rfl rfl ?_
  refine E_aload pf_201_720 rfl ?_
  refine E_v1v pf_201_721 hm2 rfl hT ?_
  refine E_iload pf_201_724 rfl ?_
  refine E_icmp_eq_t pf_201_726 (by omega) ?_
  refine E_iload pf_201_731 rfl ?_
  refine E_if_ne_f pf_201_733 (by omega) ?_
  refine E_aload pf_201_736 rfl ?_
  refine E_iconst pf_201_737 ?_
  refine E_lald pf_201_738 ho (by omega) ?_
  refine E_iload pf_201_739 rfl ?_
  refine E_i2l pf_201_741 hb ?_
  refine E_lcmp_eq_t pf_201_742 pf_201_743 (by omega) ?_
  refine E_goto pf_201_748 ?_
  exact hk _ _ _
theorem l10x (hL : (i : Int) + 5 ≤ L) (hL2 : L ≤ 2560) (hx : ∀ q : Int, -2147483648 ≤ xs q ∧ xs q ≤ 2147483647) (hs0 : pd_get h0 0 = sr L xs) (hA : Ca 185 [.ref 1, .int (ii (xs ((i : Int) + 1))), .int (ii (xs ((i : Int) + 2))), .ref 116] h0 (.inl (some (.int (ii kk))), h1)) (hs1 : pd_get h1 0 = sr L xs) (hm : pd_get h1 102 = ob 6 fs) (hB : Ca 152 [.ref 102, .int (ii (xs ((i : Int) + 1))), .int (ii (xs ((i : Int) + 2)))] h1 (.inl (some (.int (ii b))), h2)) (hm2 : pd_get h2 102 = ob 6 fs2) (hT : Ca 107 [.ref 102] h2 (.inl (some (.int (ii kk))), h2)) (hkk : 1 ≤ kk ∧ kk ≤ 2) (hk : ∀ w5 w6 w7 : Value, Rn 201 1951 [.ref 0, .ref 1, .ref 102, .ref 116, .int (ii (i : Int)), w5, w6, w7] [] h2 r) : Rn 201 683 [.ref 0, .ref 1, .ref 102, .ref 116, .int (ii (i : Int)), w5, w6, w7] [] h0 r := by
  refine E_aload pf_201_683 rfl ?_
  refine E_aload pf_201_684 rfl ?_
  refine E_iload pf_201_685 rfl ?_
  refine E_iconst pf_201_687 ?_
  refine E_iadd pf_201_688 ?_
  refine E_sald pf_201_689 hs0 (by omega) ?_
  refine E_aload pf_201_690 rfl ?_
  refine E_iload pf_201_691 rfl ?_
  refine E_iconst pf_201_693 ?_
  refine E_iadd pf_201_694 ?_
  refine E_sald pf_201_695 hs0 (by omega) ?_
  refine E_aload pf_201_696 rfl ?_
  refine E_c4v pf_201_697 rfl hA ?_
  refine E_istore (lv' := [_, _, _, _, _, _, _, _]) pf_201_700 rfl rfl ?_
  refine E_aload pf_201_702 rfl ?_
  refine E_aload pf_201_703 rfl ?_
  refine E_iload pf_201_704 rfl ?_
  refine E_iconst pf_201_706 ?_
  refine E_iadd pf_201_707 ?_
  refine E_sald pf_201_708 hs1 (by omega) ?_
  refine E_aload pf_201_709 rfl ?_
  refine E_iload pf_201_710 rfl ?_
  refine E_iconst pf_201_712 ?_
  refine E_iadd pf_201_713 ?_
  refine E_sald pf_201_714 hs1 (by omega) ?_
  refine E_v3v pf_201_715 hm rfl hB ?_
  refine E_istore (lv' := [_, _, _, _, _, _, _, _]) pf_201_718 rfl rfl ?_
  refine E_aload pf_201_720 rfl ?_
  refine E_v1v pf_201_721 hm2 rfl hT ?_
  refine E_iload pf_201_724 rfl ?_
  refine E_icmp_eq_t pf_201_726 (by omega) ?_
  refine E_iload pf_201_731 rfl ?_
  refine E_if_ne_t pf_201_733 (by omega) ?_
  refine E_goto pf_201_748 ?_
  exact hk _ _ _
theorem l11 (hL : (i : Int) + 5 ≤ L) (hL2 : L ≤ 2560) (hx : ∀ q : Int, -2147483648 ≤ xs q ∧ xs q ≤ 2147483647) (hs0 : pd_get h0 0 = sr L xs) (hA : Ca 186 [.ref 1, .int (ii (xs ((i : Int) + 1))), .int (ii (xs ((i : Int) + 2))), .int (ii (xs ((i : Int) + 3))), .ref 116] h0 (.inl (some (.int (ii kk))), h1)) (hs1 : pd_get h1 0 = sr L xs) (hm : pd_get h1 102 = ob 6 fs) (hB : Ca 153 [.ref 102, .int (ii (xs ((i : Int) + 1))), .int (ii (xs ((i : Int) + 2))), .int (ii (xs ((i : Int) + 3)))] h1 (.inl (some (.int (ii b))), h2)) (hm2 : pd_get h2 102 = ob 6 fs2) (hT : Ca 107 [.ref 102] h2 (.inl (some (.int (ii kk))), h2)) (ho : pd_get h2 116 = lr 1 o) (ho2 : o 0 = b) (hb : -2147483648 ≤ b ∧ b ≤ 2147483647) (hkk : kk = 0) (hk : ∀ w5 w6 w7 : Value, Rn 201 1951 [.ref 0, .ref 1, .ref 102, .ref 116, .int (ii (i : Int)), w5, w6, w7] [] h2 r) : Rn 201 751 [.ref 0, .ref 1, .ref 102, .ref 116, .int (ii (i : Int)), w5, w6, w7] [] h0 r := by
  refine E_aload pf_201_751 rfl ?_
  refine E_aload pf_201_752 rfl ?_
  refine E_iload pf_201_753 rfl ?_
  refine E_iconst pf_201_755 ?_
  refine E_iadd pf_201_756 ?_
  refine E_sald pf_201_757 hs0 (by omega) ?_
  refine E_aload pf_201_758 rfl ?_
  refine E_iload pf_201_759 rfl ?_
  refine E_iconst pf_201_761 ?_
  refine E_iadd pf_201_762 ?_
  refine E_sald pf_201_763 hs0 (by omega) ?_
  refine E_aload pf_201_764 rfl ?_
  refine E_iload pf_201_765 rfl ?_
  refine E_iconst pf_201_767 ?_
  refine E_iadd pf_201_768 ?_
  refine E_sald pf_201_769 hs0 (by omega) ?_
  refine E_aload pf_201_770 rfl ?_
  refine E_c5v pf_201_771 rfl hA ?_
  refine E_istore (lv' := [_, _, _, _, _, _, _, _]) pf_201_774 rfl rfl ?_
  refine E_aload pf_201_776 rfl ?_
  refine E_aload pf_201_777 rfl ?_
  refine E_iload pf_201_778 rfl ?_
  refine E_iconst pf_201_780 ?_
  refine E_iadd pf_201_781 ?_
  refine E_sald pf_201_782 hs1 (by omega) ?_
  refine E_aload pf_201_783 rfl ?_
  refine E_iload pf_201_784 rfl ?_
  refine E_iconst pf_201_786 ?_
  refine E_iadd pf_201_787 ?_
  refine E_sald pf_201_788 hs1 (by omega) ?_
  refine E_aload pf_201_789 rfl ?_
  refine E_iload pf_201_790 rfl ?_
  refine E_iconst pf_201_792 ?_
  refine E_iadd pf_201_793 ?_
  refine E_sald pf_201_794 hs1 (by omega) ?_
  refine E_v4v pf_201_795 hm rfl hB ?_
  refine E_istore (lv' := [_, _, _, _, _, _, _, _]) pf_201_798 rfl rfl ?_
  refine E_aload pf_201_800 rfl ?_
  refine E_v1v pf_201_801 hm2 rfl hT ?_
  refine E_iload pf_201_804 rfl ?_
  refine E_icmp_eq_t pf_201_806 (by omega) ?_
  refine E_iload pf_201_811 rfl ?_
  refine E_if_ne_f pf_201_813 (by omega) ?_
  refine E_aload pf_201_816 rfl ?_
  refine E_iconst pf_201_817 ?_
  refine E_lald pf_201_818 ho (by omega) ?_
  refine E_iload pf_201_819 rfl ?_
  refine E_i2l pf_201_821 hb ?_
  refine E_lcmp_eq_t pf_201_822 pf_201_823 (by omega) ?_
  refine E_goto pf_201_828 ?_
  exact hk _ _ _
theorem l11x (hL : (i : Int) + 5 ≤ L) (hL2 : L ≤ 2560) (hx : ∀ q : Int, -2147483648 ≤ xs q ∧ xs q ≤ 2147483647) (hs0 : pd_get h0 0 = sr L xs) (hA : Ca 186 [.ref 1, .int (ii (xs ((i : Int) + 1))), .int (ii (xs ((i : Int) + 2))), .int (ii (xs ((i : Int) + 3))), .ref 116] h0 (.inl (some (.int (ii kk))), h1)) (hs1 : pd_get h1 0 = sr L xs) (hm : pd_get h1 102 = ob 6 fs) (hB : Ca 153 [.ref 102, .int (ii (xs ((i : Int) + 1))), .int (ii (xs ((i : Int) + 2))), .int (ii (xs ((i : Int) + 3)))] h1 (.inl (some (.int (ii b))), h2)) (hm2 : pd_get h2 102 = ob 6 fs2) (hT : Ca 107 [.ref 102] h2 (.inl (some (.int (ii kk))), h2)) (hkk : 1 ≤ kk ∧ kk ≤ 2) (hk : ∀ w5 w6 w7 : Value, Rn 201 1951 [.ref 0, .ref 1, .ref 102, .ref 116, .int (ii (i : Int)), w5, w6, w7] [] h2 r) : Rn 201 751 [.ref 0, .ref 1, .ref 102, .ref 116, .int (ii (i : Int)), w5, w6, w7] [] h0 r := by
  refine E_aload pf_201_751 rfl ?_
  refine E_aload pf_201_752 rfl ?_
  refine E_iload pf_201_753 rfl ?_
  refine E_iconst pf_201_755 ?_
  refine E_iadd pf_201_756 ?_
  refine E_sald pf_201_757 hs0 (by omega) ?_
  refine E_aload pf_201_758 rfl ?_
  refine E_iload pf_201_759 rfl ?_
  refine E_iconst pf_201_761 ?_
  refine E_iadd pf_201_762 ?_
  refine E_sald pf_201_763 hs0 (by omega) ?_
  refine E_aload pf_201_764 rfl ?_
  refine E_iload pf_201_765 rfl ?_
  refine E_iconst pf_201_767 ?_
  refine E_iadd pf_201_768 ?_
  refine E_sald pf_201_769 hs0 (by omega) ?_
  refine E_aload pf_201_770 rfl ?_
  refine E_c5v pf_201_771 rfl hA ?_
  refine E_istore (lv' := [_, _, _, _, _, _, _, _]) pf_201_774 rfl rfl ?_
  refine E_aload pf_201_776 rfl ?_
  refine E_aload pf_201_777 rfl ?_
  refine E_iload pf_201_778 rfl ?_
  refine E_iconst pf_201_780 ?_
  refine E_iadd pf_201_781 ?_
  refine E_sald pf_201_782 hs1 (by omega) ?_
  refine E_aload pf_201_783 rfl ?_
  refine E_iload pf_201_784 rfl ?_
  refine E_iconst pf_201_786 ?_
  refine E_iadd pf_201_787 ?_
  refine E_sald pf_201_788 hs1 (by omega) ?_
  refine E_aload pf_201_789 rfl ?_
  refine E_iload pf_201_790 rfl ?_
  refine E_iconst pf_201_792 ?_
  refine E_iadd pf_201_793 ?_
  refine E_sald pf_201_794 hs1 (by omega) ?_
  refine E_v4v pf_201_795 hm rfl hB ?_
  refine E_istore (lv' := [_, _, _, _, _, _, _, _]) pf_201_798 rfl rfl ?_
  refine E_aload pf_201_800 rfl ?_
  refine E_v1v pf_201_801 hm2 rfl hT ?_
  refine E_iload pf_201_804 rfl ?_
  refine E_icmp_eq_t pf_201_806 (by omega) ?_
  refine E_iload pf_201_811 rfl ?_
  refine E_if_ne_t pf_201_813 (by omega) ?_
  refine E_goto pf_201_828 ?_
  exact hk _ _ _
theorem l12 (hL : (i : Int) + 5 ≤ L) (hL2 : L ≤ 2560) (hx : ∀ q : Int, -2147483648 ≤ xs q ∧ xs q ≤ 2147483647) (hs0 : pd_get h0 0 = sr L xs) (hA : Ca 187 [.ref 1, .int (ii (xs ((i : Int) + 1))), .ref 116] h0 (.inl (some (.int (ii kk))), h1)) (hs1 : pd_get h1 0 = sr L xs) (hm : pd_get h1 102 = ob 6 fs) (hB : Ca 154 [.ref 102, .int (ii (xs ((i : Int) + 1)))] h1 (.inl (some (.int (ii b))), h2)) (hm2 : pd_get h2 102 = ob 6 fs2) (hT : Ca 107 [.ref 102] h2 (.inl (some (.int (ii kk))), h2)) (ho : pd_get h2 116 = lr 1 o) (ho2 : o 0 = b) (hb : -2147483648 ≤ b ∧ b ≤ 2147483647) (hkk : kk = 0) (hk : ∀ w5 w6 w7 : Value, Rn 201 1951 [.ref 0, .ref 1, .ref 102, .ref 116, .int (ii (i : Int)), w5, w6, w7] [] h2 r) : Rn 201 831 [.ref 0, .ref 1, .ref 102, .ref 116, .int (ii (i : Int)), w5, w6, w7] [] h0 r := by
  refine E_aload pf_201_831 rfl ?_
  refine E_aload pf_201_832 rfl ?_
  refine E_iload pf_201_833 rfl ?_
  refine E_iconst pf_201_835 ?_
  refine E_iadd pf_201_836 ?_
  refine E_sald pf_201_837 hs0 (by omega) ?_
  refine E_aload pf_201_838 rfl ?_
  refine E_c3v pf_201_839 rfl hA ?_
  refine E_istore (lv' := [_, _, _, _, _, _, _, _]) pf_201_842 rfl rfl ?_
  refine E_aload pf_201_844 rfl ?_
  refine E_aload pf_201_845 rfl ?_
  refine E_iload pf_201_846 rfl ?_
  refine E_iconst pf_201_848 ?_
  refine E_iadd pf_201_849 ?_
  refine E_sald pf_201_850 hs1 (by omega) ?_
  refine E_v2v pf_201_851 hm rfl hB ?_
  refine E_istore (lv' := [_, _, _, _, _, _, _, _]) pf_201_854 rfl rfl ?_
  refine E_aload pf_201_856 rfl ?_
  refine E_v1v pf_201_857 hm2 rfl hT ?_
  refine E_iload pf_201_860 rfl ?_
  refine E_icmp_eq_t pf_201_862 (by omega) ?_
  refine E_iload pf_201_867 rfl ?_
  refine E_if_ne_f pf_201_869 (by omega) ?_
  refine E_aload pf_201_872 rfl ?_
  refine E_iconst pf_201_873 ?_
  refine E_lald pf_201_874 ho (by omega) ?_
  refine E_iload pf_201_875 rfl ?_
  refine E_i2l pf_201_877 hb ?_
  refine E_lcmp_eq_t pf_201_878 pf_201_879 (by omega) ?_
  refine E_goto pf_201_884 ?_
  exact hk _ _ _
theorem l12x (hL : (i : Int) + 5 ≤ L) (hL2 : L ≤ 2560) (hx : ∀ q : Int, -2147483648 ≤ xs q ∧ xs q ≤ 2147483647) (hs0 : pd_get h0 0 = sr L xs) (hA : Ca 187 [.ref 1, .int (ii (xs ((i : Int) + 1))), .ref 116] h0 (.inl (some (.int (ii kk))), h1)) (hs1 : pd_get h1 0 = sr L xs) (hm : pd_get h1 102 = ob 6 fs) (hB : Ca 154 [.ref 102, .int (ii (xs ((i : Int) + 1)))] h1 (.inl (some (.int (ii b))), h2)) (hm2 : pd_get h2 102 = ob 6 fs2) (hT : Ca 107 [.ref 102] h2 (.inl (some (.int (ii kk))), h2)) (hkk : 1 ≤ kk ∧ kk ≤ 2) (hk : ∀ w5 w6 w7 : Value, Rn 201 1951 [.ref 0, .ref 1, .ref 102, .ref 116, .int (ii (i : Int)), w5, w6, w7] [] h2 r) : Rn 201 831 [.ref 0, .ref 1, .ref 102, .ref 116, .int (ii (i : Int)), w5, w6, w7] [] h0 r := by
  refine E_aload pf_201_831 rfl ?_
  refine E_aload pf_201_832 rfl ?_
  refine E_iload pf_201_833 rfl ?_
  refine E_iconst pf_201_835 ?_
  refine E_iadd pf_201_836 ?_
  refine E_sald pf_201_837 hs0 (by omega) ?_
  refine E_aload pf_201_838 rfl ?_
  refine E_c3v pf_201_839 rfl hA ?_
  refine E_istore (lv' := [_, _, _, _, _, _, _, _]) pf_201_842 rfl rfl ?_
  refine E_aload pf_201_844 rfl ?_
  refine E_aload pf_201_845 rfl ?_
  refine E_iload pf_201_846 rfl ?_
  refine E_iconst pf_201_848 ?_
  refine E_iadd pf_201_849 ?_
  refine E_sald pf_201_850 hs1 (by omega) ?_
  refine E_v2v pf_201_851 hm rfl hB ?_
  refine E_istore (lv' := [_, _, _, _, _, _, _, _]) pf_201_854 rfl rfl ?_
  refine E_aload pf_201_856 rfl ?_
  refine E_v1v pf_201_857 hm2 rfl hT ?_
  refine E_iload pf_201_860 rfl ?_
  refine E_icmp_eq_t pf_201_862 (by omega) ?_
  refine E_iload pf_201_867 rfl ?_
  refine E_if_ne_t pf_201_869 (by omega) ?_
  refine E_goto pf_201_884 ?_
  exact hk _ _ _
theorem l13 (hL : (i : Int) + 5 ≤ L) (hL2 : L ≤ 2560) (hx : ∀ q : Int, -2147483648 ≤ xs q ∧ xs q ≤ 2147483647) (hs0 : pd_get h0 0 = sr L xs) (hA : Ca 188 [.ref 1, .int (ii (xs ((i : Int) + 1))), .int (ii (xs ((i : Int) + 2))), .int (ii (xs ((i : Int) + 3))), .ref 116] h0 (.inl (some (.int (ii kk))), h1)) (hs1 : pd_get h1 0 = sr L xs) (hm : pd_get h1 102 = ob 6 fs) (hB : Ca 155 [.ref 102, .int (ii (xs ((i : Int) + 1))), .int (ii (xs ((i : Int) + 2))), .int (ii (xs ((i : Int) + 3)))] h1 (.inl (some (.int (ii b))), h2)) (hm2 : pd_get h2 102 = ob 6 fs2) (hT : Ca 107 [.ref 102] h2 (.inl (some (.int (ii kk))), h2)) (ho : pd_get h2 116 = lr 1 o) (ho2 : o 0 = b) (hb : -2147483648 ≤ b ∧ b ≤ 2147483647) (hkk : kk = 0) (hk : ∀ w5 w6 w7 : Value, Rn 201 1951 [.ref 0, .ref 1, .ref 102, .ref 116, .int (ii (i : Int)), w5, w6, w7] [] h2 r) : Rn 201 887 [.ref 0, .ref 1, .ref 102, .ref 116, .int (ii (i : Int)), w5, w6, w7] [] h0 r := by
  refine E_aload pf_201_887 rfl ?_
  refine E_aload pf_201_888 rfl ?_
  refine E_iload pf_201_889 rfl ?_
  refine E_iconst pf_201_891 ?_
  refine E_iadd pf_201_892 ?_
  refine E_sald pf_201_893 hs0 (by omega) ?_
  refine E_aload pf_201_894 rfl ?_
  refine E_iload pf_201_895 rfl ?_
  refine E_iconst pf_201_897 ?_
  refine E_iadd pf_201_898 ?_
  refine E_sald pf_201_899 hs0 (by omega) ?_
  refine E_aload pf_201_900 rfl ?_
  refine E_iload pf_201_901 rfl ?_
  refine E_iconst pf_201_903 ?_
  refine E_iadd pf_201_904 ?_
  refine E_sald pf_201_905 hs0 (by omega) ?_
  refine E_aload pf_201_906 rfl ?_
  refine E_c5v pf_201_907 rfl hA ?_
  refine E_istore (lv' := [_, _, _, _, _, _, _, _]) pf_201_910 rfl rfl ?_
  refine E_aload pf_201_912 rfl ?_
  refine E_aload pf_201_913 rfl ?_
  refine E_iload pf_201_914 rfl ?_
  refine E_iconst pf_201_916 ?_
  refine E_iadd pf_201_917 ?_
  refine E_sald pf_201_918 hs1 (by omega) ?_
  refine E_aload pf_201_919 rfl ?_
  refine E_iload pf_201_920 rfl ?_
  refine E_iconst pf_201_922 ?_
  refine E_iadd pf_201_923 ?_
  refine E_sald pf_201_924 hs1 (by omega) ?_
  refine E_aload pf_201_925 rfl ?_
  refine E_iload pf_201_926 rfl ?_
  refine E_iconst pf_201_928 ?_
  refine E_iadd pf_201_929 ?_
  refine E_sald pf_201_930 hs1 (by omega) ?_
  refine E_v4v pf_201_931 hm rfl hB ?_
  refine E_istore (lv' := [_, _, _, _, _, _, _, _]) pf_201_934 rfl rfl ?_
  refine E_aload pf_201_936 rfl ?_
  refine E_v1v pf_201_937 hm2 rfl hT ?_
  refine E_iload pf_201_940 rfl ?_
  refine E_icmp_eq_t pf_201_942 (by omega) ?_
  refine E_iload pf_201_947 rfl ?_
  refine E_if_ne_f pf_201_949 (by omega) ?_
  refine E_aload pf_201_952 rfl ?_
  refine E_iconst pf_201_953 ?_
  refine E_lald pf_201_954 ho (by omega) ?_
  refine E_iload pf_201_955 rfl ?_
  refine E_i2l pf_201_957 hb ?_
  refine E_lcmp_eq_t pf_201_958 pf_201_959 (by omega) ?_
  refine E_goto pf_201_964 ?_
  exact hk _ _ _
theorem l13x (hL : (i : Int) + 5 ≤ L) (hL2 : L ≤ 2560) (hx : ∀ q : Int, -2147483648 ≤ xs q ∧ xs q ≤ 2147483647) (hs0 : pd_get h0 0 = sr L xs) (hA : Ca 188 [.ref 1, .int (ii (xs ((i : Int) + 1))), .int (ii (xs ((i : Int) + 2))), .int (ii (xs ((i : Int) + 3))), .ref 116] h0 (.inl (some (.int (ii kk))), h1)) (hs1 : pd_get h1 0 = sr L xs) (hm : pd_get h1 102 = ob 6 fs) (hB : Ca 155 [.ref 102, .int (ii (xs ((i : Int) + 1))), .int (ii (xs ((i : Int) + 2))), .int (ii (xs ((i : Int) + 3)))] h1 (.inl (some (.int (ii b))), h2)) (hm2 : pd_get h2 102 = ob 6 fs2) (hT : Ca 107 [.ref 102] h2 (.inl (some (.int (ii kk))), h2)) (hkk : 1 ≤ kk ∧ kk ≤ 2) (hk : ∀ w5 w6 w7 : Value, Rn 201 1951 [.ref 0, .ref 1, .ref 102, .ref 116, .int (ii (i : Int)), w5, w6, w7] [] h2 r) : Rn 201 887 [.ref 0, .ref 1, .ref 102, .ref 116, .int (ii (i : Int)), w5, w6, w7] [] h0 r := by
  refine E_aload pf_201_887 rfl ?_
  refine E_aload pf_201_888 rfl ?_
  refine E_iload pf_201_889 rfl ?_
  refine E_iconst pf_201_891 ?_
  refine E_iadd pf_201_892 ?_
  refine E_sald pf_201_893 hs0 (by omega) ?_
  refine E_aload pf_201_894 rfl ?_
  refine E_iload pf_201_895 rfl ?_
  refine E_iconst pf_201_897 ?_
  refine E_iadd pf_201_898 ?_
  refine E_sald pf_201_899 hs0 (by omega) ?_
  refine E_aload pf_201_900 rfl ?_
  refine E_iload pf_201_901 rfl ?_
  refine E_iconst pf_201_903 ?_
  refine E_iadd pf_201_904 ?_
  refine E_sald pf_201_905 hs0 (by omega) ?_
  refine E_aload pf_201_906 rfl ?_
  refine E_c5v pf_201_907 rfl hA ?_
  refine E_istore (lv' := [_, _, _, _, _, _, _, _]) pf_201_910 rfl rfl ?_
  refine E_aload pf_201_912 rfl ?_
  refine E_aload pf_201_913 rfl ?_
  refine E_iload pf_201_914 rfl ?_
  refine E_iconst pf_201_916 ?_
  refine E_iadd pf_201_917 ?_
  refine E_sald pf_201_918 hs1 (by omega) ?_
  refine E_aload pf_201_919 rfl ?_
  refine E_iload pf_201_920 rfl ?_
  refine E_iconst pf_201_922 ?_
  refine E_iadd pf_201_923 ?_
  refine E_sald pf_201_924 hs1 (by omega) ?_
  refine E_aload pf_201_925 rfl ?_
  refine E_iload pf_201_926 rfl ?_
  refine E_iconst pf_201_928 ?_
  refine E_iadd pf_201_929 ?_
  refine E_sald pf_201_930 hs1 (by omega) ?_
  refine E_v4v pf_201_931 hm rfl hB ?_
  refine E_istore (lv' := [_, _, _, _, _, _, _, _]) pf_201_934 rfl rfl ?_
  refine E_aload pf_201_936 rfl ?_
  refine E_v1v pf_201_937 hm2 rfl hT ?_
  refine E_iload pf_201_940 rfl ?_
  refine E_icmp_eq_t pf_201_942 (by omega) ?_
  refine E_iload pf_201_947 rfl ?_
  refine E_if_ne_t pf_201_949 (by omega) ?_
  refine E_goto pf_201_964 ?_
  exact hk _ _ _
theorem l14 (hL : (i : Int) + 5 ≤ L) (hL2 : L ≤ 2560) (hx : ∀ q : Int, -2147483648 ≤ xs q ∧ xs q ≤ 2147483647) (hs0 : pd_get h0 0 = sr L xs) (hA : Ca 189 [.ref 1, .ref 116] h0 (.inl (some (.int (ii kk))), h1)) (hs1 : pd_get h1 0 = sr L xs) (hm : pd_get h1 102 = ob 6 fs) (hB : Ca 156 [.ref 102] h1 (.inl (some (.int (ii b))), h2)) (hm2 : pd_get h2 102 = ob 6 fs2) (hT : Ca 107 [.ref 102] h2 (.inl (some (.int (ii kk))), h2)) (ho : pd_get h2 116 = lr 1 o) (ho2 : o 0 = b) (hb : -2147483648 ≤ b ∧ b ≤ 2147483647) (hkk : kk = 0) (hk : ∀ w5 w6 w7 : Value, Rn 201 1951 [.ref 0, .ref 1, .ref 102, .ref 116, .int (ii (i : Int)), w5, w6, w7] [] h2 r) : Rn 201 967 [.ref 0, .ref 1, .ref 102, .ref 116, .int (ii (i : Int)), w5, w6, w7] [] h0 r := by
  refine E_aload pf_201_967 rfl ?_
  refine E_aload pf_201_968 rfl ?_
  refine E_c2v pf_201_969 rfl hA ?_
  refine E_istore (lv' := [_, _, _, _, _, _, _, _]) pf_201_972 rfl rfl ?_
  refine E_aload pf_201_974 rfl ?_
  refine E_v1v pf_201_975 hm rfl hB ?_
  refine E_istore (lv' := [_, _, _, _, _, _, _, _]) pf_201_978 rfl rfl ?_
  refine E_aload pf_201_980 rfl ?_
  refine E_v1v pf_201_981 hm2 rfl hT ?_
  refine E_iload pf_201_984 rfl ?_
  refine E_icmp_eq_t pf_201_986 (by omega) ?_
  refine E_iload pf_201_991 rfl ?_
  refine E_if_ne_f pf_201_993 (by omega) ?_
  refine E_aload pf_201_996 rfl ?_
  refine E_iconst pf_201_997 ?_
  refine E_lald pf_201_998 ho (by omega) ?_
  refine E_iload pf_201_999 rfl ?_
  refine E_i2l pf_201_1001 hb ?_
  refine E_lcmp_eq_t pf_201_1002 pf_201_1003 (by omega) ?_
  refine E_goto pf_201_1008 ?_
  exact hk _ _ _
theorem l14x (hL : (i : Int) + 5 ≤ L) (hL2 : L ≤ 2560) (hx : ∀ q : Int, -2147483648 ≤ xs q ∧ xs q ≤ 2147483647) (hs0 : pd_get h0 0 = sr L xs) (hA : Ca 189 [.ref 1, .ref 116] h0 (.inl (some (.int (ii kk))), h1)) (hs1 : pd_get h1 0 = sr L xs) (hm : pd_get h1 102 = ob 6 fs) (hB : Ca 156 [.ref 102] h1 (.inl (some (.int (ii b))), h2)) (hm2 : pd_get h2 102 = ob 6 fs2) (hT : Ca 107 [.ref 102] h2 (.inl (some (.int (ii kk))), h2)) (hkk : 1 ≤ kk ∧ kk ≤ 2) (hk : ∀ w5 w6 w7 : Value, Rn 201 1951 [.ref 0, .ref 1, .ref 102, .ref 116, .int (ii (i : Int)), w5, w6, w7] [] h2 r) : Rn 201 967 [.ref 0, .ref 1, .ref 102, .ref 116, .int (ii (i : Int)), w5, w6, w7] [] h0 r := by
  refine E_aload pf_201_967 rfl ?_
  refine E_aload pf_201_968 rfl ?_
  refine E_c2v pf_201_969 rfl hA ?_
  refine E_istore (lv' := [_, _, _, _, _, _, _, _]) pf_201_972 rfl rfl ?_
  refine E_aload pf_201_974 rfl ?_
  refine E_v1v pf_201_975 hm rfl hB ?_
  refine E_istore (lv' := [_, _, _, _, _, _, _, _]) pf_201_978 rfl rfl ?_
  refine E_aload pf_201_980 rfl ?_
  refine E_v1v pf_201_981 hm2 rfl hT ?_
  refine E_iload pf_201_984 rfl ?_
  refine E_icmp_eq_t pf_201_986 (by omega) ?_
  refine E_iload pf_201_991 rfl ?_
  refine E_if_ne_t pf_201_993 (by omega) ?_
  refine E_goto pf_201_1008 ?_
  exact hk _ _ _
theorem l15 (hL : (i : Int) + 5 ≤ L) (hL2 : L ≤ 2560) (hx : ∀ q : Int, -2147483648 ≤ xs q ∧ xs q ≤ 2147483647) (hs0 : pd_get h0 0 = sr L xs) (hA : Ca 190 [.ref 1, .int (ii (xs ((i : Int) + 1))), .ref 116] h0 (.inl (some (.int (ii kk))), h1)) (hs1 : pd_get h1 0 = sr L xs) (hm : pd_get h1 102 = ob 6 fs) (hB : Ca 157 [.ref 102, .int (ii (xs ((i : Int) + 1)))] h1 (.inl (some (.int (ii b))), h2)) (hm2 : pd_get h2 102 = ob 6 fs2) (hT : Ca 107 [.ref 102] h2 (.inl (some (.int (ii kk))), h2)) (ho : pd_get h2 116 = lr 1 o) (ho2 : o 0 = b) (hb : -2147483648 ≤ b ∧ b ≤ 2147483647) (hkk : kk = 0) (hk : ∀ w5 w6 w7 : Value, Rn 201 1951 [.ref 0, .ref 1, .ref 102, .ref 116, .int (ii (i : Int)), w5, w6, w7] [] h2 r) : Rn 201 1011 [.ref 0, .ref 1, .ref 102, .ref 116, .int (ii (i : Int)), w5, w6, w7] [] h0 r := by
  refine E_aload pf_201_1011 rfl ?_
  refine E_aload pf_201_1012 rfl ?_
  refine E_iload pf_201_1013 rfl ?_
  refine E_iconst pf_201_1015 ?_
  refine E_iadd pf_201_1016 ?_
  refine E_sald pf_201_1017 hs0 (by omega) ?_
  refine E_aload pf_201_1018 rfl ?_
  refine E_c3v pf_201_1019 rfl hA ?_
  refine E_istore (lv' := [_, _, _, _, _, _, _, _]) pf_201_1022 rfl rfl ?_
  refine E_aload pf_201_1024 rfl ?_
  refine E_aload pf_201_1025 rfl ?_
  refine E_iload pf_201_1026 rfl ?_
  refine E_iconst pf_201_1028 ?_
  refine E_iadd pf_201_1029 ?_
  refine E_sald pf_201_1030 hs1 (by omega) ?_
  refine E_v2v pf_201_1031 hm rfl hB ?_
  refine E_istore (lv' := [_, _, _, _, _, _, _, _]) pf_201_1034 rfl rfl ?_
  refine E_aload pf_201_1036 rfl ?_
  refine E_v1v pf_201_1037 hm2 rfl hT ?_
  refine E_iload pf_201_1040 rfl ?_
  refine E_icmp_eq_t pf_201_1042 (by omega) ?_
  refine E_iload pf_201_1047 rfl ?_
  refine E_if_ne_f pf_201_1049 (by omega) ?_
  refine E_aload pf_201_1052 rfl ?_
  refine E_iconst pf_201_1053 ?_
  refine E_lald pf_201_1054 ho (by omega) ?_
  refine E_iload pf_201_1055 rfl ?_
  refine E_i2l pf_201_1057 hb ?_
  refine E_lcmp_eq_t pf_201_1058 pf_201_1059 (by omega) ?_
  refine E_goto pf_201_1064 ?_
  exact hk _ _ _
theorem l15x (hL : (i : Int) + 5 ≤ L) (hL2 : L ≤ 2560) (hx : ∀ q : Int, -2147483648 ≤ xs q ∧ xs q ≤ 2147483647) (hs0 : pd_get h0 0 = sr L xs) (hA : Ca 190 [.ref 1, .int (ii (xs ((i : Int) + 1))), .ref 116] h0 (.inl (some (.int (ii kk))), h1)) (hs1 : pd_get h1 0 = sr L xs) (hm : pd_get h1 102 = ob 6 fs) (hB : Ca 157 [.ref 102, .int (ii (xs ((i : Int) + 1)))] h1 (.inl (some (.int (ii b))), h2)) (hm2 : pd_get h2 102 = ob 6 fs2) (hT : Ca 107 [.ref 102] h2 (.inl (some (.int (ii kk))), h2)) (hkk : 1 ≤ kk ∧ kk ≤ 2) (hk : ∀ w5 w6 w7 : Value, Rn 201 1951 [.ref 0, .ref 1, .ref 102, .ref 116, .int (ii (i : Int)), w5, w6, w7] [] h2 r) : Rn 201 1011 [.ref 0, .ref 1, .ref 102, .ref 116, .int (ii (i : Int)), w5, w6, w7] [] h0 r := by
  refine E_aload pf_201_1011 rfl ?_
  refine E_aload pf_201_1012 rfl ?_
  refine E_iload pf_201_1013 rfl ?_
  refine E_iconst pf_201_1015 ?_
  refine E_iadd pf_201_1016 ?_
  refine E_sald pf_201_1017 hs0 (by omega) ?_
  refine E_aload pf_201_1018 rfl ?_
  refine E_c3v pf_201_1019 rfl hA ?_
  refine E_istore (lv' := [_, _, _, _, _, _, _, _]) pf_201_1022 rfl rfl ?_
  refine E_aload pf_201_1024 rfl ?_
  refine E_aload pf_201_1025 rfl ?_
  refine E_iload pf_201_1026 rfl ?_
  refine E_iconst pf_201_1028 ?_
  refine E_iadd pf_201_1029 ?_
  refine E_sald pf_201_1030 hs1 (by omega) ?_
  refine E_v2v pf_201_1031 hm rfl hB ?_
  refine E_istore (lv' := [_, _, _, _, _, _, _, _]) pf_201_1034 rfl rfl ?_
  refine E_aload pf_201_1036 rfl ?_
  refine E_v1v pf_201_1037 hm2 rfl hT ?_
  refine E_iload pf_201_1040 rfl ?_
  refine E_icmp_eq_t pf_201_1042 (by omega) ?_
  refine E_iload pf_201_1047 rfl ?_
  refine E_if_ne_t pf_201_1049 (by omega) ?_
  refine E_goto pf_201_1064 ?_
  exact hk _ _ _
theorem l16 (hL : (i : Int) + 5 ≤ L) (hL2 : L ≤ 2560) (hx : ∀ q : Int, -2147483648 ≤ xs q ∧ xs q ≤ 2147483647) (hs0 : pd_get h0 0 = sr L xs) (hA : Ca 191 [.ref 1, .int (ii (xs ((i : Int) + 1))), .ref 116] h0 (.inl (some (.int (ii kk))), h1)) (hs1 : pd_get h1 0 = sr L xs) (hm : pd_get h1 102 = ob 6 fs) (hB : Ca 158 [.ref 102, .int (ii (xs ((i : Int) + 1)))] h1 (.inl (some (.int (ii b))), h2)) (hm2 : pd_get h2 102 = ob 6 fs2) (hT : Ca 107 [.ref 102] h2 (.inl (some (.int (ii kk))), h2)) (ho : pd_get h2 116 = lr 1 o) (ho2 : o 0 = b) (hb : -2147483648 ≤ b ∧ b ≤ 2147483647) (hkk : kk = 0) (hk : ∀ w5 w6 w7 : Value, Rn 201 1951 [.ref 0, .ref 1, .ref 102, .ref 116, .int (ii (i : Int)), w5, w6, w7] [] h2 r) : Rn 201 1067 [.ref 0, .ref 1, .ref 102, .ref 116, .int (ii (i : Int)), w5, w6, w7] [] h0 r := by
  refine E_aload pf_201_1067 rfl ?_
  refine E_aload pf_201_1068 rfl ?_
  refine E_iload pf_201_1069 rfl ?_
  refine E_iconst pf_201_1071 ?_
  refine E_iadd pf_201_1072 ?_
  refine E_sald pf_201_1073 hs0 (by omega) ?_
  refine E_aload pf_201_1074 rfl ?_
  refine E_c3v pf_201_1075 rfl hA ?_
  refine E_istore (lv' := [_, _, _, _, _, _, _, _]) pf_201_1078 rfl rfl ?_
  refine E_aload pf_201_1080 rfl ?_
  refine E_aload pf_201_1081 rfl ?_
  refine E_iload pf_201_1082 rfl ?_
  refine E_iconst pf_201_1084 ?_
  refine E_iadd pf_201_1085 ?_
  refine E_sald pf_201_1086 hs1 (by omega) ?_
  refine E_v2v pf_201_1087 hm rfl hB ?_
  refine E_istore (lv' := [_, _, _, _, _, _, _, _]) pf_201_1090 rfl rfl ?_
  refine E_aload pf_201_1092 rfl ?_
  refine E_v1v pf_201_1093 hm2 rfl hT ?_
  refine E_iload pf_201_1096 rfl ?_
  refine E_icmp_eq_t pf_201_1098 (by omega) ?_
  refine E_iload pf_201_1103 rfl ?_
  refine E_if_ne_f pf_201_1105 (by omega) ?_
  refine E_aload pf_201_1108 rfl ?_
  refine E_iconst pf_201_1109 ?_
  refine E_lald pf_201_1110 ho (by omega) ?_
  refine E_iload pf_201_1111 rfl ?_
  refine E_i2l pf_201_1113 hb ?_
  refine E_lcmp_eq_t pf_201_1114 pf_201_1115 (by omega) ?_
  refine E_goto pf_201_1120 ?_
  exact hk _ _ _
theorem l16x (hL : (i : Int) + 5 ≤ L) (hL2 : L ≤ 2560) (hx : ∀ q : Int, -2147483648 ≤ xs q ∧ xs q ≤ 2147483647) (hs0 : pd_get h0 0 = sr L xs) (hA : Ca 191 [.ref 1, .int (ii (xs ((i : Int) + 1))), .ref 116] h0 (.inl (some (.int (ii kk))), h1)) (hs1 : pd_get h1 0 = sr L xs) (hm : pd_get h1 102 = ob 6 fs) (hB : Ca 158 [.ref 102, .int (ii (xs ((i : Int) + 1)))] h1 (.inl (some (.int (ii b))), h2)) (hm2 : pd_get h2 102 = ob 6 fs2) (hT : Ca 107 [.ref 102] h2 (.inl (some (.int (ii kk))), h2)) (hkk : 1 ≤ kk ∧ kk ≤ 2) (hk : ∀ w5 w6 w7 : Value, Rn 201 1951 [.ref 0, .ref 1, .ref 102, .ref 116, .int (ii (i : Int)), w5, w6, w7] [] h2 r) : Rn 201 1067 [.ref 0, .ref 1, .ref 102, .ref 116, .int (ii (i : Int)), w5, w6, w7] [] h0 r := by
  refine E_aload pf_201_1067 rfl ?_
  refine E_aload pf_201_1068 rfl ?_
  refine E_iload pf_201_1069 rfl ?_
  refine E_iconst pf_201_1071 ?_
  refine E_iadd pf_201_1072 ?_
  refine E_sald pf_201_1073 hs0 (by omega) ?_
  refine E_aload pf_201_1074 rfl ?_
  refine E_c3v pf_201_1075 rfl hA ?_
  refine E_istore (lv' := [_, _, _, _, _, _, _, _]) pf_201_1078 rfl rfl ?_
  refine E_aload pf_201_1080 rfl ?_
  refine E_aload pf_201_1081 rfl ?_
  refine E_iload pf_201_1082 rfl ?_
  refine E_iconst pf_201_1084 ?_
  refine E_iadd pf_201_1085 ?_
  refine E_sald pf_201_1086 hs1 (by omega) ?_
  refine E_v2v pf_201_1087 hm rfl hB ?_
  refine E_istore (lv' := [_, _, _, _, _, _, _, _]) pf_201_1090 rfl rfl ?_
  refine E_aload pf_201_1092 rfl ?_
  refine E_v1v pf_201_1093 hm2 rfl hT ?_
  refine E_iload pf_201_1096 rfl ?_
  refine E_icmp_eq_t pf_201_1098 (by omega) ?_
  refine E_iload pf_201_1103 rfl ?_
  refine E_if_ne_t pf_201_1105 (by omega) ?_
  refine E_goto pf_201_1120 ?_
  exact hk _ _ _
theorem l17t (hL : (i : Int) + 5 ≤ L) (hL2 : L ≤ 2560) (hx : ∀ q : Int, -2147483648 ≤ xs q ∧ xs q ≤ 2147483647) (hq : xs ((i : Int) + 2) = 0) (hs0 : pd_get h0 0 = sr L xs) (hA : Ca 192 [.ref 1, .int (ii (xs ((i : Int) + 1))), .int (ii 0), .ref 116] h0 (.inl (some (.int (ii kk))), h1)) (hs1 : pd_get h1 0 = sr L xs) (hm : pd_get h1 102 = ob 6 fs) (hB : Ca 159 [.ref 102, .int (ii (xs ((i : Int) + 1))), .int (ii 0)] h1 (.inl (some (.long (ll b))), h2)) (hm2 : pd_get h2 102 = ob 6 fs2) (hT : Ca 107 [.ref 102] h2 (.inl (some (.int (ii kk))), h2)) (ho : pd_get h2 116 = lr 1 o) (ho2 : o 0 = b) (hb : -9223372036854775808 ≤ b ∧ b ≤ 9223372036854775807) (hkk : kk = 0) (hk : ∀ w5 w6 w7 : Value, Rn 201 1951 [.ref 0, .ref 1, .ref 102, .ref 116, .int (ii (i : Int)), w5, w6, w7] [] h2 r) : Rn 201 1123 [.ref 0, .ref 1, .ref 102, .ref 116, .int (ii (i : Int)), w5, w6, w7] [] h0 r := by
  refine E_aload pf_201_1123 rfl ?_
  refine E_aload pf_201_1124 rfl ?_
  refine E_iload pf_201_1125 rfl ?_
  refine E_iconst pf_201_1127 ?_
  refine E_iadd pf_201_1128 ?_
  refine E_sald pf_201_1129 hs0 (by omega) ?_
  refine E_aload pf_201_1130 rfl ?_
  refine E_iload pf_201_1131 rfl ?_
  refine E_iconst pf_201_1133 ?_
  refine E_iadd pf_201_1134 ?_
  refine E_sald pf_201_1135 hs0 (by omega) ?_
  refine E_if_eq_t pf_201_1136 ⟨hx _, hq⟩ ?_
  refine E_iconst pf_201_1143 ?_
  refine E_aload pf_201_1144 rfl ?_
  refine E_c4v pf_201_1145 rfl hA ?_
  refine E_istore (lv' := [_, _, _, _, _, _, _, _]) pf_201_1148 rfl rfl ?_
  refine E_aload pf_201_1150 rfl ?_
  refine E_aload pf_201_1151 rfl ?_
  refine E_iload pf_201_1152 rfl ?_
  refine E_iconst pf_201_1154 ?_
  refine E_iadd pf_201_1155 ?_
  refine E_sald pf_201_1156 hs1 (by omega) ?_
  refine E_aload pf_201_1157 rfl ?_
  refine E_iload pf_201_1158 rfl ?_
  refine E_iconst pf_201_1160 ?_
  refine E_iadd pf_201_1161 ?_
  refine E_sald pf_201_1162 hs1 (by omega) ?_
  refine E_if_eq_t pf_201_1163 ⟨hx _, hq⟩ ?_
  refine E_iconst pf_201_1170 ?_
  refine E_v3v pf_201_1171 hm rfl hB ?_
  refine E_lstore (lv' := [_, _, _, _, _, _, _, _]) pf_201_1174 rfl rfl ?_
  refine E_aload pf_201_1176 rfl ?_
  refine E_v1v pf_201_1177 hm2 rfl hT ?_
  refine E_iload pf_201_1180 rfl ?_
  refine E_icmp_eq_t pf_201_1182 (by omega) ?_
  refine E_iload pf_201_1187 rfl ?_
  refine E_if_ne_f pf_201_1189 (by omega) ?_
  refine E_aload pf_201_1192 rfl ?_
  refine E_iconst pf_201_1193 ?_
  refine E_lald pf_201_1194 ho (by omega) ?_
  refine E_lload pf_201_1195 rfl ?_
  refine E_lcmp_eq_t pf_201_1197 pf_201_1198 (by omega) ?_
  refine E_goto pf_201_1203 ?_
  exact hk _ _ _
theorem l17tx (hL : (i : Int) + 5 ≤ L) (hL2 : L ≤ 2560) (hx : ∀ q : Int, -2147483648 ≤ xs q ∧ xs q ≤ 2147483647) (hq : xs ((i : Int) + 2) = 0) (hs0 : pd_get h0 0 = sr L xs) (hA : Ca 192 [.ref 1, .int (ii (xs ((i : Int) + 1))), .int (ii 0), .ref 116] h0 (.inl (some (.int (ii kk))), h1)) (hs1 : pd_get h1 0 = sr L xs) (hm : pd_get h1 102 = ob 6 fs) (hB : Ca 159 [.ref 102, .int (ii (xs ((i : Int) + 1))), .int (ii 0)] h1 (.inl (some (.long (ll b))), h2)) (hm2 : pd_get h2 102 = ob 6 fs2) (hT : Ca 107 [.ref 102] h2 (.inl (some (.int (ii kk))), h2)) (hkk : 1 ≤ kk ∧ kk ≤ 2) (hk : ∀ w5 w6 w7 : Value, Rn 201 1951 [.ref 0, .ref 1, .ref 102, .ref 116, .int (ii (i : Int)), w5, w6, w7] [] h2 r) : Rn 201 1123 [.ref 0, .ref 1, .ref 102, .ref 116, .int (ii (i : Int)), w5, w6, w7] [] h0 r := by
  refine E_aload pf_201_1123 rfl ?_
  refine E_aload pf_201_1124 rfl ?_
  refine E_iload pf_201_1125 rfl ?_
  refine E_iconst pf_201_1127 ?_
  refine E_iadd pf_201_1128 ?_
  refine E_sald pf_201_1129 hs0 (by omega) ?_
  refine E_aload pf_201_1130 rfl ?_
  refine E_iload pf_201_1131 rfl ?_
  refine E_iconst pf_201_1133 ?_
  refine E_iadd pf_201_1134 ?_
  refine E_sald pf_201_1135 hs0 (by omega) ?_
  refine E_if_eq_t pf_201_1136 ⟨hx _, hq⟩ ?_
  refine E_iconst pf_201_1143 ?_
  refine E_aload pf_201_1144 rfl ?_
  refine E_c4v pf_201_1145 rfl hA ?_
  refine E_istore (lv' := [_, _, _, _, _, _, _, _]) pf_201_1148 rfl rfl ?_
  refine E_aload pf_201_1150 rfl ?_
  refine E_aload pf_201_1151 rfl ?_
  refine E_iload pf_201_1152 rfl ?_
  refine E_iconst pf_201_1154 ?_
  refine E_iadd pf_201_1155 ?_
  refine E_sald pf_201_1156 hs1 (by omega) ?_
  refine E_aload pf_201_1157 rfl ?_
  refine E_iload pf_201_1158 rfl ?_
  refine E_iconst pf_201_1160 ?_
  refine E_iadd pf_201_1161 ?_
  refine E_sald pf_201_1162 hs1 (by omega) ?_
  refine E_if_eq_t pf_201_1163 ⟨hx _, hq⟩ ?_
  refine E_iconst pf_201_1170 ?_
  refine E_v3v pf_201_1171 hm rfl hB ?_
  refine E_lstore (lv' := [_, _, _, _, _, _, _, _]) pf_201_1174 rfl rfl ?_
  refine E_aload pf_201_1176 rfl ?_
  refine E_v1v pf_201_1177 hm2 rfl hT ?_
  refine E_iload pf_201_1180 rfl ?_
  refine E_icmp_eq_t pf_201_1182 (by omega) ?_
  refine E_iload pf_201_1187 rfl ?_
  refine E_if_ne_t pf_201_1189 (by omega) ?_
  refine E_goto pf_201_1203 ?_
  exact hk _ _ _
theorem l17f (hL : (i : Int) + 5 ≤ L) (hL2 : L ≤ 2560) (hx : ∀ q : Int, -2147483648 ≤ xs q ∧ xs q ≤ 2147483647) (hq : ¬ xs ((i : Int) + 2) = 0) (hs0 : pd_get h0 0 = sr L xs) (hA : Ca 192 [.ref 1, .int (ii (xs ((i : Int) + 1))), .int (ii 1), .ref 116] h0 (.inl (some (.int (ii kk))), h1)) (hs1 : pd_get h1 0 = sr L xs) (hm : pd_get h1 102 = ob 6 fs) (hB : Ca 159 [.ref 102, .int (ii (xs ((i : Int) + 1))), .int (ii 1)] h1 (.inl (some (.long (ll b))), h2)) (hm2 : pd_get h2 102 = ob 6 fs2) (hT : Ca 107 [.ref 102] h2 (.inl (some (.int (ii kk))), h2)) (ho : pd_get h2 116 = lr 1 o) (ho2 : o 0 = b) (hb : -9223372036854775808 ≤ b ∧ b ≤ 9223372036854775807) (hkk : kk = 0) (hk : ∀ w5 w6 w7 : Value, Rn 201 1951 [.ref 0, .ref 1, .ref 102, .ref 116, .int (ii (i : Int)), w5, w6, w7] [] h2 r) : Rn 201 1123 [.ref 0, .ref 1, .ref 102, .ref 116, .int (ii (i : Int)), w5, w6, w7] [] h0 r := by
  refine E_aload pf_201_1123 rfl ?_
  refine E_aload pf_201_1124 rfl ?_
  refine E_iload pf_201_1125 rfl ?_
  refine E_iconst pf_201_1127 ?_
  refine E_iadd pf_201_1128 ?_
  refine E_sald pf_201_1129 hs0 (by omega) ?_
  refine E_aload pf_201_1130 rfl ?_
  refine E_iload pf_201_1131 rfl ?_
  refine E_iconst pf_201_1133 ?_
  refine E_iadd pf_201_1134 ?_
  refine E_sald pf_201_1135 hs0 (by omega) ?_
  refine E_if_eq_f pf_201_1136 ⟨hx _, hq⟩ ?_
  refine E_iconst pf_201_1139 ?_
  refine E_goto pf_201_1140 ?_
  refine E_aload pf_201_1144 rfl ?_
  refine E_c4v pf_201_1145 rfl hA ?_
  refine E_istore (lv' := [_, _, _, _, _, _, _, _]) pf_201_1148 rfl rfl ?_
  refine E_aload pf_201_1150 rfl ?_
  refine E_aload pf_201_1151 rfl ?_
  refine E_iload pf_201_1152 rfl ?_
  refine E_iconst pf_201_1154 ?_
  refine E_iadd pf_201_1155 ?_
  refine E_sald pf_201_1156 hs1 (by omega) ?_
  refine E_aload pf_201_1157 rfl ?_
  refine E_iload pf_201_1158 rfl ?_
  refine E_iconst pf_201_1160 ?_
  refine E_iadd pf_201_1161 ?_
  refine E_sald pf_201_1162 hs1 (by omega) ?_
  refine E_if_eq_f pf_201_1163 ⟨hx _, hq⟩ ?_
  refine E_iconst pf_201_1166 ?_
  refine E_goto pf_201_1167 ?_
  refine E_v3v pf_201_1171 hm rfl hB ?_
  refine E_lstore (lv' := [_, _, _, _, _, _, _, _]) pf_201_1174 rfl rfl ?_
  refine E_aload pf_201_1176 rfl ?_
  refine E_v1v pf_201_1177 hm2 rfl hT ?_
  refine E_iload pf_201_1180 rfl ?_
  refine E_icmp_eq_t pf_201_1182 (by omega) ?_
  refine E_iload pf_201_1187 rfl ?_
  refine E_if_ne_f pf_201_1189 (by omega) ?_
  refine E_aload pf_201_1192 rfl ?_
  refine E_iconst pf_201_1193 ?_
  refine E_lald pf_201_1194 ho (by omega) ?_
  refine E_lload pf_201_1195 rfl ?_
  refine E_lcmp_eq_t pf_201_1197 pf_201_1198 (by omega) ?_
  refine E_goto pf_201_1203 ?_
  exact hk _ _ _
theorem l17fx (hL : (i : Int) + 5 ≤ L) (hL2 : L ≤ 2560) (hx : ∀ q : Int, -2147483648 ≤ xs q ∧ xs q ≤ 2147483647) (hq : ¬ xs ((i : Int) + 2) = 0) (hs0 : pd_get h0 0 = sr L xs) (hA : Ca 192 [.ref 1, .int (ii (xs ((i : Int) + 1))), .int (ii 1), .ref 116] h0 (.inl (some (.int (ii kk))), h1)) (hs1 : pd_get h1 0 = sr L xs) (hm : pd_get h1 102 = ob 6 fs) (hB : Ca 159 [.ref 102, .int (ii (xs ((i : Int) + 1))), .int (ii 1)] h1 (.inl (some (.long (ll b))), h2)) (hm2 : pd_get h2 102 = ob 6 fs2) (hT : Ca 107 [.ref 102] h2 (.inl (some (.int (ii kk))), h2)) (hkk : 1 ≤ kk ∧ kk ≤ 2) (hk : ∀ w5 w6 w7 : Value, Rn 201 1951 [.ref 0, .ref 1, .ref 102, .ref 116, .int (ii (i : Int)), w5, w6, w7] [] h2 r) : Rn 201 1123 [.ref 0, .ref 1, .ref 102, .ref 116, .int (ii (i : Int)), w5, w6, w7] [] h0 r := by
  refine E_aload pf_201_1123 rfl ?_
  refine E_aload pf_201_1124 rfl ?_
  refine E_iload pf_201_1125 rfl ?_
  refine E_iconst pf_201_1127 ?_
  refine E_iadd pf_201_1128 ?_
  refine E_sald pf_201_1129 hs0 (by omega) ?_
  refine E_aload pf_201_1130 rfl ?_
  refine E_iload pf_201_1131 rfl ?_
  refine E_iconst pf_201_1133 ?_
  refine E_iadd pf_201_1134 ?_
  refine E_sald pf_201_1135 hs0 (by omega) ?_
  refine E_if_eq_f pf_201_1136 ⟨hx _, hq⟩ ?_
  refine E_iconst pf_201_1139 ?_
  refine E_goto pf_201_1140 ?_
  refine E_aload pf_201_1144 rfl ?_
  refine E_c4v pf_201_1145 rfl hA ?_
  refine E_istore (lv' := [_, _, _, _, _, _, _, _]) pf_201_1148 rfl rfl ?_
  refine E_aload pf_201_1150 rfl ?_
  refine E_aload pf_201_1151 rfl ?_
  refine E_iload pf_201_1152 rfl ?_
  refine E_iconst pf_201_1154 ?_
  refine E_iadd pf_201_1155 ?_
  refine E_sald pf_201_1156 hs1 (by omega) ?_
  refine E_aload pf_201_1157 rfl ?_
  refine E_iload pf_201_1158 rfl ?_
  refine E_iconst pf_201_1160 ?_
  refine E_iadd pf_201_1161 ?_
  refine E_sald pf_201_1162 hs1 (by omega) ?_
  refine E_if_eq_f pf_201_1163 ⟨hx _, hq⟩ ?_
  refine E_iconst pf_201_1166 ?_
  refine E_goto pf_201_1167 ?_
  refine E_v3v pf_201_1171 hm rfl hB ?_
  refine E_lstore (lv' := [_, _, _, _, _, _, _, _]) pf_201_1174 rfl rfl ?_
  refine E_aload pf_201_1176 rfl ?_
  refine E_v1v pf_201_1177 hm2 rfl hT ?_
  refine E_iload pf_201_1180 rfl ?_
  refine E_icmp_eq_t pf_201_1182 (by omega) ?_
  refine E_iload pf_201_1187 rfl ?_
  refine E_if_ne_t pf_201_1189 (by omega) ?_
  refine E_goto pf_201_1203 ?_
  exact hk _ _ _
theorem l18 (hL : (i : Int) + 5 ≤ L) (hL2 : L ≤ 2560) (hx : ∀ q : Int, -2147483648 ≤ xs q ∧ xs q ≤ 2147483647) (hs0 : pd_get h0 0 = sr L xs) (hA : Ca 81 [.ref 1] h0 (.inl (some (.long (ll b))), h1)) (hr : pd_get h0 1 = ob 5 fs3) (hs1 : pd_get h1 0 = sr L xs) (hm : pd_get h1 102 = ob 6 fs) (hB : Ca 160 [.ref 102] h1 (.inl (some (.long (ll b))), h2)) (hb : -9223372036854775808 ≤ b ∧ b ≤ 9223372036854775807) (hk : Rn 201 1951 [.ref 0, .ref 1, .ref 102, .ref 116, .int (ii (i : Int)), w5, w6, w7] [] h2 r) : Rn 201 1206 [.ref 0, .ref 1, .ref 102, .ref 116, .int (ii (i : Int)), w5, w6, w7] [] h0 r := by
  refine E_aload pf_201_1206 rfl ?_
  refine E_v1v pf_201_1207 hr rfl hA ?_
  refine E_aload pf_201_1210 rfl ?_
  refine E_v1v pf_201_1211 hm rfl hB ?_
  refine E_lcmp_eq_t pf_201_1214 pf_201_1215 (by omega) ?_
  exact hk
theorem l19 (hL : (i : Int) + 5 ≤ L) (hL2 : L ≤ 2560) (hx : ∀ q : Int, -2147483648 ≤ xs q ∧ xs q ≤ 2147483647) (hs0 : pd_get h0 0 = sr L xs) (hA : Ca 82 [.ref 1] h0 (.inl (some (.long (ll b))), h1)) (hr : pd_get h0 1 = ob 5 fs3) (hs1 : pd_get h1 0 = sr L xs) (hm : pd_get h1 102 = ob 6 fs) (hB : Ca 161 [.ref 102] h1 (.inl (some (.long (ll b))), h2)) (hb : -9223372036854775808 ≤ b ∧ b ≤ 9223372036854775807) (hk : Rn 201 1951 [.ref 0, .ref 1, .ref 102, .ref 116, .int (ii (i : Int)), w5, w6, w7] [] h2 r) : Rn 201 1220 [.ref 0, .ref 1, .ref 102, .ref 116, .int (ii (i : Int)), w5, w6, w7] [] h0 r := by
  refine E_aload pf_201_1220 rfl ?_
  refine E_v1v pf_201_1221 hr rfl hA ?_
  refine E_aload pf_201_1224 rfl ?_
  refine E_v1v pf_201_1225 hm rfl hB ?_
  refine E_lcmp_eq_t pf_201_1228 pf_201_1229 (by omega) ?_
  exact hk
theorem l20 {b0 : Int32} (hL : (i : Int) + 5 ≤ L) (hL2 : L ≤ 2560) (hx : ∀ q : Int, -2147483648 ≤ xs q ∧ xs q ≤ 2147483647) (hs0 : pd_get h0 0 = sr L xs) (hA : Ca 83 [.ref 1] h0 (.inl (some (.int b0)), h1)) (hr : pd_get h0 1 = ob 5 fs3) (hs1 : pd_get h1 0 = sr L xs) (hm : pd_get h1 102 = ob 6 fs) (hB : Ca 162 [.ref 102] h1 (.inl (some (.int b0)), h2)) (hk : Rn 201 1951 [.ref 0, .ref 1, .ref 102, .ref 116, .int (ii (i : Int)), w5, w6, w7] [] h2 r) : Rn 201 1234 [.ref 0, .ref 1, .ref 102, .ref 116, .int (ii (i : Int)), w5, w6, w7] [] h0 r := by
  refine E_aload pf_201_1234 rfl ?_
  refine E_v1v pf_201_1235 hr rfl hA ?_
  refine E_aload pf_201_1238 rfl ?_
  refine E_v1v pf_201_1239 hm rfl hB ?_
  rw [← ii_self b0]
  refine E_icmp_eq_t pf_201_1242 ⟨⟨Int32.le_toInt _, Int32.toInt_le _⟩, ⟨Int32.le_toInt _, Int32.toInt_le _⟩, rfl⟩ ?_
  exact hk
theorem l21 {b0 : Int32} (hL : (i : Int) + 5 ≤ L) (hL2 : L ≤ 2560) (hx : ∀ q : Int, -2147483648 ≤ xs q ∧ xs q ≤ 2147483647) (hs0 : pd_get h0 0 = sr L xs) (hA : Ca 84 [.ref 1] h0 (.inl (some (.int b0)), h1)) (hr : pd_get h0 1 = ob 5 fs3) (hs1 : pd_get h1 0 = sr L xs) (hm : pd_get h1 102 = ob 6 fs) (hB : Ca 163 [.ref 102] h1 (.inl (some (.int b0)), h2)) (hk : Rn 201 1951 [.ref 0, .ref 1, .ref 102, .ref 116, .int (ii (i : Int)), w5, w6, w7] [] h2 r) : Rn 201 1247 [.ref 0, .ref 1, .ref 102, .ref 116, .int (ii (i : Int)), w5, w6, w7] [] h0 r := by
  refine E_aload pf_201_1247 rfl ?_
  refine E_v1v pf_201_1248 hr rfl hA ?_
  refine E_aload pf_201_1251 rfl ?_
  refine E_v1v pf_201_1252 hm rfl hB ?_
  rw [← ii_self b0]
  refine E_icmp_eq_t pf_201_1255 ⟨⟨Int32.le_toInt _, Int32.toInt_le _⟩, ⟨Int32.le_toInt _, Int32.toInt_le _⟩, rfl⟩ ?_
  exact hk
theorem l22 {b0 : Int32} (hL : (i : Int) + 5 ≤ L) (hL2 : L ≤ 2560) (hx : ∀ q : Int, -2147483648 ≤ xs q ∧ xs q ≤ 2147483647) (hs0 : pd_get h0 0 = sr L xs) (hA : Ca 85 [.ref 1] h0 (.inl (some (.int b0)), h1)) (hr : pd_get h0 1 = ob 5 fs3) (hs1 : pd_get h1 0 = sr L xs) (hm : pd_get h1 102 = ob 6 fs) (hB : Ca 164 [.ref 102] h1 (.inl (some (.int b0)), h2)) (hk : Rn 201 1951 [.ref 0, .ref 1, .ref 102, .ref 116, .int (ii (i : Int)), w5, w6, w7] [] h2 r) : Rn 201 1260 [.ref 0, .ref 1, .ref 102, .ref 116, .int (ii (i : Int)), w5, w6, w7] [] h0 r := by
  refine E_aload pf_201_1260 rfl ?_
  refine E_v1v pf_201_1261 hr rfl hA ?_
  refine E_aload pf_201_1264 rfl ?_
  refine E_v1v pf_201_1265 hm rfl hB ?_
  rw [← ii_self b0]
  refine E_icmp_eq_t pf_201_1268 ⟨⟨Int32.le_toInt _, Int32.toInt_le _⟩, ⟨Int32.le_toInt _, Int32.toInt_le _⟩, rfl⟩ ?_
  exact hk
theorem l23 (hL : (i : Int) + 5 ≤ L) (hL2 : L ≤ 2560) (hx : ∀ q : Int, -2147483648 ≤ xs q ∧ xs q ≤ 2147483647) (hs0 : pd_get h0 0 = sr L xs) (hA : Ca 193 [.ref 1, .int (ii (xs ((i : Int) + 1))), .int (ii (xs ((i : Int) + 2))), .int (ii (xs ((i : Int) + 3))), .int (ii (xs ((i : Int) + 4))), .ref 116] h0 (.inl (some (.int (ii kk))), h1)) (hs1 : pd_get h1 0 = sr L xs) (hm : pd_get h1 102 = ob 6 fs) (hB : Ca 165 [.ref 102, .int (ii (xs ((i : Int) + 1))), .int (ii (xs ((i : Int) + 2))), .int (ii (xs ((i : Int) + 3))), .int (ii (xs ((i : Int) + 4)))] h1 (.inl (some (.int (ii b))), h2)) (hm2 : pd_get h2 102 = ob 6 fs2) (hT : Ca 107 [.ref 102] h2 (.inl (some (.int (ii kk))), h2)) (ho : pd_get h2 116 = lr 1 o) (ho2 : o 0 = b) (hb : -2147483648 ≤ b ∧ b ≤ 2147483647) (hkk : kk = 0) (hk : ∀ w5 w6 w7 : Value, Rn 201 1951 [.ref 0, .ref 1, .ref 102, .ref 116, .int (ii (i : Int)), w5, w6, w7] [] h2 r) : Rn 201 1273 [.ref 0, .ref 1, .ref 102, .ref 116, .int (ii (i : Int)), w5, w6, w7] [] h0 r := by
  refine E_aload pf_201_1273 rfl ?_
  refine E_aload pf_201_1274 rfl ?_
  refine E_iload pf_201_1275 rfl ?_
  refine E_iconst pf_201_1277 ?_
  refine E_iadd pf_201_1278 ?_
  refine E_sald pf_201_1279 hs0 (by omega) ?_
  refine E_aload pf_201_1280 rfl ?_
  refine E_iload pf_201_1281 rfl ?_
  refine E_iconst pf_201_1283 ?_
  refine E_iadd pf_201_1284 ?_
  refine E_sald pf_201_1285 hs0 (by omega) ?_
  refine E_aload pf_201_1286 rfl ?_
  refine E_iload pf_201_1287 rfl ?_
  refine E_iconst pf_201_1289 ?_
  refine E_iadd pf_201_1290 ?_
  refine E_sald pf_201_1291 hs0 (by omega) ?_
  refine E_aload pf_201_1292 rfl ?_
  refine E_iload pf_201_1293 rfl ?_
  refine E_iconst pf_201_1295 ?_
  refine E_iadd pf_201_1296 ?_
  refine E_sald pf_201_1297 hs0 (by omega) ?_
  refine E_aload pf_201_1298 rfl ?_
  refine E_c6v pf_201_1299 rfl hA ?_
  refine E_istore (lv' := [_, _, _, _, _, _, _, _]) pf_201_1302 rfl rfl ?_
  refine E_aload pf_201_1304 rfl ?_
  refine E_aload pf_201_1305 rfl ?_
  refine E_iload pf_201_1306 rfl ?_
  refine E_iconst pf_201_1308 ?_
  refine E_iadd pf_201_1309 ?_
  refine E_sald pf_201_1310 hs1 (by omega) ?_
  refine E_aload pf_201_1311 rfl ?_
  refine E_iload pf_201_1312 rfl ?_
  refine E_iconst pf_201_1314 ?_
  refine E_iadd pf_201_1315 ?_
  refine E_sald pf_201_1316 hs1 (by omega) ?_
  refine E_aload pf_201_1317 rfl ?_
  refine E_iload pf_201_1318 rfl ?_
  refine E_iconst pf_201_1320 ?_
  refine E_iadd pf_201_1321 ?_
  refine E_sald pf_201_1322 hs1 (by omega) ?_
  refine E_aload pf_201_1323 rfl ?_
  refine E_iload pf_201_1324 rfl ?_
  refine E_iconst pf_201_1326 ?_
  refine E_iadd pf_201_1327 ?_
  refine E_sald pf_201_1328 hs1 (by omega) ?_
  refine E_v5v pf_201_1329 hm rfl hB ?_
  refine E_istore (lv' := [_, _, _, _, _, _, _, _]) pf_201_1332 rfl rfl ?_
  refine E_aload pf_201_1334 rfl ?_
  refine E_v1v pf_201_1335 hm2 rfl hT ?_
  refine E_iload pf_201_1338 rfl ?_
  refine E_icmp_eq_t pf_201_1340 (by omega) ?_
  refine E_iload pf_201_1345 rfl ?_
  refine E_if_ne_f pf_201_1347 (by omega) ?_
  refine E_aload pf_201_1350 rfl ?_
  refine E_iconst pf_201_1351 ?_
  refine E_lald pf_201_1352 ho (by omega) ?_
  refine E_iload pf_201_1353 rfl ?_
  refine E_i2l pf_201_1355 hb ?_
  refine E_lcmp_eq_t pf_201_1356 pf_201_1357 (by omega) ?_
  refine E_goto pf_201_1362 ?_
  exact hk _ _ _
theorem l23x (hL : (i : Int) + 5 ≤ L) (hL2 : L ≤ 2560) (hx : ∀ q : Int, -2147483648 ≤ xs q ∧ xs q ≤ 2147483647) (hs0 : pd_get h0 0 = sr L xs) (hA : Ca 193 [.ref 1, .int (ii (xs ((i : Int) + 1))), .int (ii (xs ((i : Int) + 2))), .int (ii (xs ((i : Int) + 3))), .int (ii (xs ((i : Int) + 4))), .ref 116] h0 (.inl (some (.int (ii kk))), h1)) (hs1 : pd_get h1 0 = sr L xs) (hm : pd_get h1 102 = ob 6 fs) (hB : Ca 165 [.ref 102, .int (ii (xs ((i : Int) + 1))), .int (ii (xs ((i : Int) + 2))), .int (ii (xs ((i : Int) + 3))), .int (ii (xs ((i : Int) + 4)))] h1 (.inl (some (.int (ii b))), h2)) (hm2 : pd_get h2 102 = ob 6 fs2) (hT : Ca 107 [.ref 102] h2 (.inl (some (.int (ii kk))), h2)) (hkk : 1 ≤ kk ∧ kk ≤ 2) (hk : ∀ w5 w6 w7 : Value, Rn 201 1951 [.ref 0, .ref 1, .ref 102, .ref 116, .int (ii (i : Int)), w5, w6, w7] [] h2 r) : Rn 201 1273 [.ref 0, .ref 1, .ref 102, .ref 116, .int (ii (i : Int)), w5, w6, w7] [] h0 r := by
  refine E_aload pf_201_1273 rfl ?_
  refine E_aload pf_201_1274 rfl ?_
  refine E_iload pf_201_1275 rfl ?_
  refine E_iconst pf_201_1277 ?_
  refine E_iadd pf_201_1278 ?_
  refine E_sald pf_201_1279 hs0 (by omega) ?_
  refine E_aload pf_201_1280 rfl ?_
  refine E_iload pf_201_1281 rfl ?_
  refine E_iconst pf_201_1283 ?_
  refine E_iadd pf_201_1284 ?_
  refine E_sald pf_201_1285 hs0 (by omega) ?_
  refine E_aload pf_201_1286 rfl ?_
  refine E_iload pf_201_1287 rfl ?_
  refine E_iconst pf_201_1289 ?_
  refine E_iadd pf_201_1290 ?_
  refine E_sald pf_201_1291 hs0 (by omega) ?_
  refine E_aload pf_201_1292 rfl ?_
  refine E_iload pf_201_1293 rfl ?_
  refine E_iconst pf_201_1295 ?_
  refine E_iadd pf_201_1296 ?_
  refine E_sald pf_201_1297 hs0 (by omega) ?_
  refine E_aload pf_201_1298 rfl ?_
  refine E_c6v pf_201_1299 rfl hA ?_
  refine E_istore (lv' := [_, _, _, _, _, _, _, _]) pf_201_1302 rfl rfl ?_
  refine E_aload pf_201_1304 rfl ?_
  refine E_aload pf_201_1305 rfl ?_
  refine E_iload pf_201_1306 rfl ?_
  refine E_iconst pf_201_1308 ?_
  refine E_iadd pf_201_1309 ?_
  refine E_sald pf_201_1310 hs1 (by omega) ?_
  refine E_aload pf_201_1311 rfl ?_
  refine E_iload pf_201_1312 rfl ?_
  refine E_iconst pf_201_1314 ?_
  refine E_iadd pf_201_1315 ?_
  refine E_sald pf_201_1316 hs1 (by omega) ?_
  refine E_aload pf_201_1317 rfl ?_
  refine E_iload pf_201_1318 rfl ?_
  refine E_iconst pf_201_1320 ?_
  refine E_iadd pf_201_1321 ?_
  refine E_sald pf_201_1322 hs1 (by omega) ?_
  refine E_aload pf_201_1323 rfl ?_
  refine E_iload pf_201_1324 rfl ?_
  refine E_iconst pf_201_1326 ?_
  refine E_iadd pf_201_1327 ?_
  refine E_sald pf_201_1328 hs1 (by omega) ?_
  refine E_v5v pf_201_1329 hm rfl hB ?_
  refine E_istore (lv' := [_, _, _, _, _, _, _, _]) pf_201_1332 rfl rfl ?_
  refine E_aload pf_201_1334 rfl ?_
  refine E_v1v pf_201_1335 hm2 rfl hT ?_
  refine E_iload pf_201_1338 rfl ?_
  refine E_icmp_eq_t pf_201_1340 (by omega) ?_
  refine E_iload pf_201_1345 rfl ?_
  refine E_if_ne_t pf_201_1347 (by omega) ?_
  refine E_goto pf_201_1362 ?_
  exact hk _ _ _
theorem l24 {b0 : Int32} (hL : (i : Int) + 5 ≤ L) (hL2 : L ≤ 2560) (hx : ∀ q : Int, -2147483648 ≤ xs q ∧ xs q ≤ 2147483647) (hs0 : pd_get h0 0 = sr L xs) (hA : Ca 87 [.ref 1] h0 (.inl (some (.int b0)), h1)) (hr : pd_get h0 1 = ob 5 fs3) (hs1 : pd_get h1 0 = sr L xs) (hm : pd_get h1 102 = ob 6 fs) (hB : Ca 166 [.ref 102] h1 (.inl (some (.int b0)), h2)) (hk : Rn 201 1951 [.ref 0, .ref 1, .ref 102, .ref 116, .int (ii (i : Int)), w5, w6, w7] [] h2 r) : Rn 201 1365 [.ref 0, .ref 1, .ref 102, .ref 116, .int (ii (i : Int)), w5, w6, w7] [] h0 r := by
  refine E_aload pf_201_1365 rfl ?_
  refine E_v1v pf_201_1366 hr rfl hA ?_
  refine E_aload pf_201_1369 rfl ?_
  refine E_v1v pf_201_1370 hm rfl hB ?_
  rw [← ii_self b0]
  refine E_icmp_eq_t pf_201_1373 ⟨⟨Int32.le_toInt _, Int32.toInt_le _⟩, ⟨Int32.le_toInt _, Int32.toInt_le _⟩, rfl⟩ ?_
  exact hk
theorem l25t (hL : (i : Int) + 5 ≤ L) (hL2 : L ≤ 2560) (hx : ∀ q : Int, -2147483648 ≤ xs q ∧ xs q ≤ 2147483647) (hq : xs ((i : Int) + 3) = 0) (hs0 : pd_get h0 0 = sr L xs) (hA : Ca 194 [.ref 1, .int (ii (xs ((i : Int) + 1))), .int (ii (xs ((i : Int) + 2))), .int (ii 0), .ref 116] h0 (.inl (some (.int (ii kk))), h1)) (hs1 : pd_get h1 0 = sr L xs) (hm : pd_get h1 102 = ob 6 fs) (hB : Ca 168 [.ref 102, .int (ii (xs ((i : Int) + 1))), .int (ii (xs ((i : Int) + 2))), .int (ii 0)] h1 (.inl (some (.long (ll b))), h2)) (hm2 : pd_get h2 102 = ob 6 fs2) (hT : Ca 107 [.ref 102] h2 (.inl (some (.int (ii kk))), h2)) (ho : pd_get h2 116 = lr 1 o) (ho2 : o 0 = b) (hb : -9223372036854775808 ≤ b ∧ b ≤ 9223372036854775807) (hkk : kk = 0) (hk : ∀ w5 w6 w7 : Value, Rn 201 1951 [.ref 0, .ref 1, .ref 102, .ref 116, .int (ii (i : Int)), w5, w6, w7] [] h2 r) : Rn 201 1378 [.ref 0, .ref 1, .ref 102, .ref 116, .int (ii (i : Int)), w5, w6, w7] [] h0 r := by
  refine E_aload pf_201_1378 rfl ?_
  refine E_aload pf_201_1379 rfl ?_
  refine E_iload pf_201_1380 rfl ?_
  refine E_iconst pf_201_1382 ?_
  refine E_iadd pf_201_1383 ?_
  refine E_sald pf_201_1384 hs0 (by omega) ?_
  refine E_aload pf_201_1385 rfl ?_
  refine E_iload pf_201_1386 rfl ?_
  refine E_iconst pf_201_1388 ?_
  refine E_iadd pf_201_1389 ?_
  refine E_sald pf_201_1390 hs0 (by omega) ?_
  refine E_aload pf_201_1391 rfl ?_
  refine E_iload pf_201_1392 rfl ?_
  refine E_iconst pf_201_1394 ?_
  refine E_iadd pf_201_1395 ?_
  refine E_sald pf_201_1396 hs0 (by omega) ?_
  refine E_if_eq_t pf_201_1397 ⟨hx _, hq⟩ ?_
  refine E_iconst pf_201_1404 ?_
  refine E_aload pf_201_1405 rfl ?_
  refine E_c5v pf_201_1406 rfl hA ?_
  refine E_istore (lv' := [_, _, _, _, _, _, _, _]) pf_201_1409 rfl rfl ?_
  refine E_aload pf_201_1411 rfl ?_
  refine E_aload pf_201_1412 rfl ?_
  refine E_iload pf_201_1413 rfl ?_
  refine E_iconst pf_201_1415 ?_
  refine E_iadd pf_201_1416 ?_
  refine E_sald pf_201_1417 hs1 (by omega) ?_
  refine E_aload pf_201_1418 rfl ?_
  refine E_iload pf_201_1419 rfl ?_
  refine E_iconst pf_201_1421 ?_
  refine E_iadd pf_201_1422 ?_
  refine E_sald pf_201_1423 hs1 (by omega) ?_
  refine E_aload pf_201_1424 rfl ?_
  refine E_iload pf_201_1425 rfl ?_
  refine E_iconst pf_201_1427 ?_
  refine E_iadd pf_201_1428 ?_
  refine E_sald pf_201_1429 hs1 (by omega) ?_
  refine E_if_eq_t pf_201_1430 ⟨hx _, hq⟩ ?_
  refine E_iconst pf_201_1437 ?_
  refine E_v4v pf_201_1438 hm rfl hB ?_
  refine E_lstore (lv' := [_, _, _, _, _, _, _, _]) pf_201_1441 rfl rfl ?_
  refine E_aload pf_201_1443 rfl ?_
  refine E_v1v pf_201_1444 hm2 rfl hT ?_
  refine E_iload pf_201_1447 rfl ?_
  refine E_icmp_eq_t pf_201_1449 (by omega) ?_
  refine E_iload pf_201_1454 rfl ?_
  refine E_if_ne_f pf_201_1456 (by omega) ?_
  refine E_aload pf_201_1459 rfl ?_
  refine E_iconst pf_201_1460 ?_
  refine E_lald pf_201_1461 ho (by omega) ?_
  refine E_lload pf_201_1462 rfl ?_
  refine E_lcmp_eq_t pf_201_1464 pf_201_1465 (by omega) ?_
  refine E_goto pf_201_1470 ?_
  exact hk _ _ _
theorem l25tx (hL : (i : Int) + 5 ≤ L) (hL2 : L ≤ 2560) (hx : ∀ q : Int, -2147483648 ≤ xs q ∧ xs q ≤ 2147483647) (hq : xs ((i : Int) + 3) = 0) (hs0 : pd_get h0 0 = sr L xs) (hA : Ca 194 [.ref 1, .int (ii (xs ((i : Int) + 1))), .int (ii (xs ((i : Int) + 2))), .int (ii 0), .ref 116] h0 (.inl (some (.int (ii kk))), h1)) (hs1 : pd_get h1 0 = sr L xs) (hm : pd_get h1 102 = ob 6 fs) (hB : Ca 168 [.ref 102, .int (ii (xs ((i : Int) + 1))), .int (ii (xs ((i : Int) + 2))), .int (ii 0)] h1 (.inl (some (.long (ll b))), h2)) (hm2 : pd_get h2 102 = ob 6 fs2) (hT : Ca 107 [.ref 102] h2 (.inl (some (.int (ii kk))), h2)) (hkk : 1 ≤ kk ∧ kk ≤ 2) (hk : ∀ w5 w6 w7 : Value, Rn 201 1951 [.ref 0, .ref 1, .ref 102, .ref 116, .int (ii (i : Int)), w5, w6, w7] [] h2 r) : Rn 201 1378 [.ref 0, .ref 1, .ref 102, .ref 116, .int (ii (i : Int)), w5, w6, w7] [] h0 r := by
  refine E_aload pf_201_1378 rfl ?_
  refine E_aload pf_201_1379 rfl ?_
  refine E_iload pf_201_1380 rfl ?_
  refine E_iconst pf_201_1382 ?_
  refine E_iadd pf_201_1383 ?_
  refine E_sald pf_201_1384 hs0 (by omega) ?_
  refine E_aload pf_201_1385 rfl ?_
  refine E_iload pf_201_1386 rfl ?_
  refine E_iconst pf_201_1388 ?_
  refine E_iadd pf_201_1389 ?_
  refine E_sald pf_201_1390 hs0 (by omega) ?_
  refine E_aload pf_201_1391 rfl ?_
  refine E_iload pf_201_1392 rfl ?_
  refine E_iconst pf_201_1394 ?_
  refine E_iadd pf_201_1395 ?_
  refine E_sald pf_201_1396 hs0 (by omega) ?_
  refine E_if_eq_t pf_201_1397 ⟨hx _, hq⟩ ?_
  refine E_iconst pf_201_1404 ?_
  refine E_aload pf_201_1405 rfl ?_
  refine E_c5v pf_201_1406 rfl hA ?_
  refine E_istore (lv' := [_, _, _, _, _, _, _, _]) pf_201_1409 rfl rfl ?_
  refine E_aload pf_201_1411 rfl ?_
  refine E_aload pf_201_1412 rfl ?_
  refine E_iload pf_201_1413 rfl ?_
  refine E_iconst pf_201_1415 ?_
  refine E_iadd pf_201_1416 ?_
  refine E_sald pf_201_1417 hs1 (by omega) ?_
  refine E_aload pf_201_1418 rfl ?_
  refine E_iload pf_201_1419 rfl ?_
  refine E_iconst pf_201_1421 ?_
  refine E_iadd pf_201_1422 ?_
  refine E_sald pf_201_1423 hs1 (by omega) ?_
  refine E_aload pf_201_1424 rfl ?_
  refine E_iload pf_201_1425 rfl ?_
  refine E_iconst pf_201_1427 ?_
  refine E_iadd pf_201_1428 ?_
  refine E_sald pf_201_1429 hs1 (by omega) ?_
  refine E_if_eq_t pf_201_1430 ⟨hx _, hq⟩ ?_
  refine E_iconst pf_201_1437 ?_
  refine E_v4v pf_201_1438 hm rfl hB ?_
  refine E_lstore (lv' := [_, _, _, _, _, _, _, _]) pf_201_1441 rfl rfl ?_
  refine E_aload pf_201_1443 rfl ?_
  refine E_v1v pf_201_1444 hm2 rfl hT ?_
  refine E_iload pf_201_1447 rfl ?_
  refine E_icmp_eq_t pf_201_1449 (by omega) ?_
  refine E_iload pf_201_1454 rfl ?_
  refine E_if_ne_t pf_201_1456 (by omega) ?_
  refine E_goto pf_201_1470 ?_
  exact hk _ _ _
theorem l25f (hL : (i : Int) + 5 ≤ L) (hL2 : L ≤ 2560) (hx : ∀ q : Int, -2147483648 ≤ xs q ∧ xs q ≤ 2147483647) (hq : ¬ xs ((i : Int) + 3) = 0) (hs0 : pd_get h0 0 = sr L xs) (hA : Ca 194 [.ref 1, .int (ii (xs ((i : Int) + 1))), .int (ii (xs ((i : Int) + 2))), .int (ii 1), .ref 116] h0 (.inl (some (.int (ii kk))), h1)) (hs1 : pd_get h1 0 = sr L xs) (hm : pd_get h1 102 = ob 6 fs) (hB : Ca 168 [.ref 102, .int (ii (xs ((i : Int) + 1))), .int (ii (xs ((i : Int) + 2))), .int (ii 1)] h1 (.inl (some (.long (ll b))), h2)) (hm2 : pd_get h2 102 = ob 6 fs2) (hT : Ca 107 [.ref 102] h2 (.inl (some (.int (ii kk))), h2)) (ho : pd_get h2 116 = lr 1 o) (ho2 : o 0 = b) (hb : -9223372036854775808 ≤ b ∧ b ≤ 9223372036854775807) (hkk : kk = 0) (hk : ∀ w5 w6 w7 : Value, Rn 201 1951 [.ref 0, .ref 1, .ref 102, .ref 116, .int (ii (i : Int)), w5, w6, w7] [] h2 r) : Rn 201 1378 [.ref 0, .ref 1, .ref 102, .ref 116, .int (ii (i : Int)), w5, w6, w7] [] h0 r := by
  refine E_aload pf_201_1378 rfl ?_
  refine E_aload pf_201_1379 rfl ?_
  refine E_iload pf_201_1380 rfl ?_
  refine E_iconst pf_201_1382 ?_
  refine E_iadd pf_201_1383 ?_
  refine E_sald pf_201_1384 hs0 (by omega) ?_
  refine E_aload pf_201_1385 rfl ?_
  refine E_iload pf_201_1386 rfl ?_
  refine E_iconst pf_201_1388 ?_
  refine E_iadd pf_201_1389 ?_
  refine E_sald pf_201_1390 hs0 (by omega) ?_
  refine E_aload pf_201_1391 rfl ?_
  refine E_iload pf_201_1392 rfl ?_
  refine E_iconst pf_201_1394 ?_
  refine E_iadd pf_201_1395 ?_
  refine E_sald pf_201_1396 hs0 (by omega) ?_
  refine E_if_eq_f pf_201_1397 ⟨hx _, hq⟩ ?_
  refine E_iconst pf_201_1400 ?_
  refine E_goto pf_201_1401 ?_
  refine E_aload pf_201_1405 rfl ?_
  refine E_c5v pf_201_1406 rfl hA ?_
  refine E_istore (lv' := [_, _, _, _, _, _, _, _]) pf_201_1409 rfl rfl ?_
  refine E_aload pf_201_1411 rfl ?_
  refine E_aload pf_201_1412 rfl ?_
  refine E_iload pf_201_1413 rfl ?_
  refine E_iconst pf_201_1415 ?_
  refine E_iadd pf_201_1416 ?_
  refine E_sald pf_201_1417 hs1 (by omega) ?_
  refine E_aload pf_201_1418 rfl ?_
  refine E_iload pf_201_1419 rfl ?_
  refine E_iconst pf_201_1421 ?_
  refine E_iadd pf_201_1422 ?_
  refine E_sald pf_201_1423 hs1 (by omega) ?_
  refine E_aload pf_201_1424 rfl ?_
  refine E_iload pf_201_1425 rfl ?_
  refine E_iconst pf_201_1427 ?_
  refine E_iadd pf_201_1428 ?_
  refine E_sald pf_201_1429 hs1 (by omega) ?_
  refine E_if_eq_f pf_201_1430 ⟨hx _, hq⟩ ?_
  refine E_iconst pf_201_1433 ?_
  refine E_goto pf_201_1434 ?_
  refine E_v4v pf_201_1438 hm rfl hB ?_
  refine E_lstore (lv' := [_, _, _, _, _, _, _, _]) pf_201_1441 rfl rfl ?_
  refine E_aload pf_201_1443 rfl ?_
  refine E_v1v pf_201_1444 hm2 rfl hT ?_
  refine E_iload pf_201_1447 rfl ?_
  refine E_icmp_eq_t pf_201_1449 (by omega) ?_
  refine E_iload pf_201_1454 rfl ?_
  refine E_if_ne_f pf_201_1456 (by omega) ?_
  refine E_aload pf_201_1459 rfl ?_
  refine E_iconst pf_201_1460 ?_
  refine E_lald pf_201_1461 ho (by omega) ?_
  refine E_lload pf_201_1462 rfl ?_
  refine E_lcmp_eq_t pf_201_1464 pf_201_1465 (by omega) ?_
  refine E_goto pf_201_1470 ?_
  exact hk _ _ _
theorem l25fx (hL : (i : Int) + 5 ≤ L) (hL2 : L ≤ 2560) (hx : ∀ q : Int, -2147483648 ≤ xs q ∧ xs q ≤ 2147483647) (hq : ¬ xs ((i : Int) + 3) = 0) (hs0 : pd_get h0 0 = sr L xs) (hA : Ca 194 [.ref 1, .int (ii (xs ((i : Int) + 1))), .int (ii (xs ((i : Int) + 2))), .int (ii 1), .ref 116] h0 (.inl (some (.int (ii kk))), h1)) (hs1 : pd_get h1 0 = sr L xs) (hm : pd_get h1 102 = ob 6 fs) (hB : Ca 168 [.ref 102, .int (ii (xs ((i : Int) + 1))), .int (ii (xs ((i : Int) + 2))), .int (ii 1)] h1 (.inl (some (.long (ll b))), h2)) (hm2 : pd_get h2 102 = ob 6 fs2) (hT : Ca 107 [.ref 102] h2 (.inl (some (.int (ii kk))), h2)) (hkk : 1 ≤ kk ∧ kk ≤ 2) (hk : ∀ w5 w6 w7 : Value, Rn 201 1951 [.ref 0, .ref 1, .ref 102, .ref 116, .int (ii (i : Int)), w5, w6, w7] [] h2 r) : Rn 201 1378 [.ref 0, .ref 1, .ref 102, .ref 116, .int (ii (i : Int)), w5, w6, w7] [] h0 r := by
  refine E_aload pf_201_1378 rfl ?_
  refine E_aload pf_201_1379 rfl ?_
  refine E_iload pf_201_1380 rfl ?_
  refine E_iconst pf_201_1382 ?_
  refine E_iadd pf_201_1383 ?_
  refine E_sald pf_201_1384 hs0 (by omega) ?_
  refine E_aload pf_201_1385 rfl ?_
  refine E_iload pf_201_1386 rfl ?_
  refine E_iconst pf_201_1388 ?_
  refine E_iadd pf_201_1389 ?_
  refine E_sald pf_201_1390 hs0 (by omega) ?_
  refine E_aload pf_201_1391 rfl ?_
  refine E_iload pf_201_1392 rfl ?_
  refine E_iconst pf_201_1394 ?_
  refine E_iadd pf_201_1395 ?_
  refine E_sald pf_201_1396 hs0 (by omega) ?_
  refine E_if_eq_f pf_201_1397 ⟨hx _, hq⟩ ?_
  refine E_iconst pf_201_1400 ?_
  refine E_goto pf_201_1401 ?_
  refine E_aload pf_201_1405 rfl ?_
  refine E_c5v pf_201_1406 rfl hA ?_
  refine E_istore (lv' := [_, _, _, _, _, _, _, _]) pf_201_1409 rfl rfl ?_
  refine E_aload pf_201_1411 rfl ?_
  refine E_aload pf_201_1412 rfl ?_
  refine E_iload pf_201_1413 rfl ?_
  refine E_iconst pf_201_1415 ?_
  refine E_iadd pf_201_1416 ?_
  refine E_sald pf_201_1417 hs1 (by omega) ?_
  refine E_aload pf_201_1418 rfl ?_
  refine E_iload pf_201_1419 rfl ?_
  refine E_iconst pf_201_1421 ?_
  refine E_iadd pf_201_1422 ?_
  refine E_sald pf_201_1423 hs1 (by omega) ?_
  refine E_aload pf_201_1424 rfl ?_
  refine E_iload pf_201_1425 rfl ?_
  refine E_iconst pf_201_1427 ?_
  refine E_iadd pf_201_1428 ?_
  refine E_sald pf_201_1429 hs1 (by omega) ?_
  refine E_if_eq_f pf_201_1430 ⟨hx _, hq⟩ ?_
  refine E_iconst pf_201_1433 ?_
  refine E_goto pf_201_1434 ?_
  refine E_v4v pf_201_1438 hm rfl hB ?_
  refine E_lstore (lv' := [_, _, _, _, _, _, _, _]) pf_201_1441 rfl rfl ?_
  refine E_aload pf_201_1443 rfl ?_
  refine E_v1v pf_201_1444 hm2 rfl hT ?_
  refine E_iload pf_201_1447 rfl ?_
  refine E_icmp_eq_t pf_201_1449 (by omega) ?_
  refine E_iload pf_201_1454 rfl ?_
  refine E_if_ne_t pf_201_1456 (by omega) ?_
  refine E_goto pf_201_1470 ?_
  exact hk _ _ _
theorem l26 (hL : (i : Int) + 5 ≤ L) (hL2 : L ≤ 2560) (hx : ∀ q : Int, -2147483648 ≤ xs q ∧ xs q ≤ 2147483647) (hs0 : pd_get h0 0 = sr L xs) (hA : Ca 195 [.ref 1, .int (ii (xs ((i : Int) + 1))), .int (ii (xs ((i : Int) + 2))), .ref 116] h0 (.inl (some (.int (ii kk))), h1)) (hs1 : pd_get h1 0 = sr L xs) (hm : pd_get h1 102 = ob 6 fs) (hB : Ca 169 [.ref 102, .int (ii (xs ((i : Int) + 1))), .int (ii (xs ((i : Int) + 2)))] h1 (.inl (some (.long (ll b))), h2)) (hm2 : pd_get h2 102 = ob 6 fs2) (hT : Ca 107 [.ref 102] h2 (.inl (some (.int (ii kk))), h2)) (ho : pd_get h2 116 = lr 1 o) (ho2 : o 0 = b) (hb : -9223372036854775808 ≤ b ∧ b ≤ 9223372036854775807) (hkk : kk = 0) (hk : ∀ w5 w6 w7 : Value, Rn 201 1951 [.ref 0, .ref 1, .ref 102, .ref 116, .int (ii (i : Int)), w5, w6, w7] [] h2 r) : Rn 201 1473 [.ref 0, .ref 1, .ref 102, .ref 116, .int (ii (i : Int)), w5, w6, w7] [] h0 r := by
  refine E_aload pf_201_1473 rfl ?_
  refine E_aload pf_201_1474 rfl ?_
  refine E_iload pf_201_1475 rfl ?_
  refine E_iconst pf_201_1477 ?_
  refine E_iadd pf_201_1478 ?_
  refine E_sald pf_201_1479 hs0 (by omega) ?_
  refine E_aload pf_201_1480 rfl ?_
  refine E_iload pf_201_1481 rfl ?_
  refine E_iconst pf_201_1483 ?_
  refine E_iadd pf_201_1484 ?_
  refine E_sald pf_201_1485 hs0 (by omega) ?_
  refine E_aload pf_201_1486 rfl ?_
  refine E_c4v pf_201_1487 rfl hA ?_
  refine E_istore (lv' := [_, _, _, _, _, _, _, _]) pf_201_1490 rfl rfl ?_
  refine E_aload pf_201_1492 rfl ?_
  refine E_aload pf_201_1493 rfl ?_
  refine E_iload pf_201_1494 rfl ?_
  refine E_iconst pf_201_1496 ?_
  refine E_iadd pf_201_1497 ?_
  refine E_sald pf_201_1498 hs1 (by omega) ?_
  refine E_aload pf_201_1499 rfl ?_
  refine E_iload pf_201_1500 rfl ?_
  refine E_iconst pf_201_1502 ?_
  refine E_iadd pf_201_1503 ?_
  refine E_sald pf_201_1504 hs1 (by omega) ?_
  refine E_v3v pf_201_1505 hm rfl hB ?_
  refine E_lstore (lv' := [_, _, _, _, _, _, _, _]) pf_201_1508 rfl rfl ?_
  refine E_aload pf_201_1510 rfl ?_
  refine E_v1v pf_201_1511 hm2 rfl hT ?_
  refine E_iload pf_201_1514 rfl ?_
  refine E_icmp_eq_t pf_201_1516 (by omega) ?_
  refine E_iload pf_201_1521 rfl ?_
  refine E_if_ne_f pf_201_1523 (by omega) ?_
  refine E_aload pf_201_1526 rfl ?_
  refine E_iconst pf_201_1527 ?_
  refine E_lald pf_201_1528 ho (by omega) ?_
  refine E_lload pf_201_1529 rfl ?_
  refine E_lcmp_eq_t pf_201_1531 pf_201_1532 (by omega) ?_
  refine E_goto pf_201_1537 ?_
  exact hk _ _ _
theorem l26x (hL : (i : Int) + 5 ≤ L) (hL2 : L ≤ 2560) (hx : ∀ q : Int, -2147483648 ≤ xs q ∧ xs q ≤ 2147483647) (hs0 : pd_get h0 0 = sr L xs) (hA : Ca 195 [.ref 1, .int (ii (xs ((i : Int) + 1))), .int (ii (xs ((i : Int) + 2))), .ref 116] h0 (.inl (some (.int (ii kk))), h1)) (hs1 : pd_get h1 0 = sr L xs) (hm : pd_get h1 102 = ob 6 fs) (hB : Ca 169 [.ref 102, .int (ii (xs ((i : Int) + 1))), .int (ii (xs ((i : Int) + 2)))] h1 (.inl (some (.long (ll b))), h2)) (hm2 : pd_get h2 102 = ob 6 fs2) (hT : Ca 107 [.ref 102] h2 (.inl (some (.int (ii kk))), h2)) (hkk : 1 ≤ kk ∧ kk ≤ 2) (hk : ∀ w5 w6 w7 : Value, Rn 201 1951 [.ref 0, .ref 1, .ref 102, .ref 116, .int (ii (i : Int)), w5, w6, w7] [] h2 r) : Rn 201 1473 [.ref 0, .ref 1, .ref 102, .ref 116, .int (ii (i : Int)), w5, w6, w7] [] h0 r := by
  refine E_aload pf_201_1473 rfl ?_
  refine E_aload pf_201_1474 rfl ?_
  refine E_iload pf_201_1475 rfl ?_
  refine E_iconst pf_201_1477 ?_
  refine E_iadd pf_201_1478 ?_
  refine E_sald pf_201_1479 hs0 (by omega) ?_
  refine E_aload pf_201_1480 rfl ?_
  refine E_iload pf_201_1481 rfl ?_
  refine E_iconst pf_201_1483 ?_
  refine E_iadd pf_201_1484 ?_
  refine E_sald pf_201_1485 hs0 (by omega) ?_
  refine E_aload pf_201_1486 rfl ?_
  refine E_c4v pf_201_1487 rfl hA ?_
  refine E_istore (lv' := [_, _, _, _, _, _, _, _]) pf_201_1490 rfl rfl ?_
  refine E_aload pf_201_1492 rfl ?_
  refine E_aload pf_201_1493 rfl ?_
  refine E_iload pf_201_1494 rfl ?_
  refine E_iconst pf_201_1496 ?_
  refine E_iadd pf_201_1497 ?_
  refine E_sald pf_201_1498 hs1 (by omega) ?_
  refine E_aload pf_201_1499 rfl ?_
  refine E_iload pf_201_1500 rfl ?_
  refine E_iconst pf_201_1502 ?_
  refine E_iadd pf_201_1503 ?_
  refine E_sald pf_201_1504 hs1 (by omega) ?_
  refine E_v3v pf_201_1505 hm rfl hB ?_
  refine E_lstore (lv' := [_, _, _, _, _, _, _, _]) pf_201_1508 rfl rfl ?_
  refine E_aload pf_201_1510 rfl ?_
  refine E_v1v pf_201_1511 hm2 rfl hT ?_
  refine E_iload pf_201_1514 rfl ?_
  refine E_icmp_eq_t pf_201_1516 (by omega) ?_
  refine E_iload pf_201_1521 rfl ?_
  refine E_if_ne_t pf_201_1523 (by omega) ?_
  refine E_goto pf_201_1537 ?_
  exact hk _ _ _
theorem l27 (hL : (i : Int) + 5 ≤ L) (hL2 : L ≤ 2560) (hx : ∀ q : Int, -2147483648 ≤ xs q ∧ xs q ≤ 2147483647) (hs0 : pd_get h0 0 = sr L xs) (hA : Ca 196 [.ref 1, .int (ii (xs ((i : Int) + 1))), .long (ll (lg (xs ((i : Int) + 2)) (xs ((i : Int) + 3)))), .ref 116] h0 (.inl (some (.int (ii kk))), h1)) (hs1 : pd_get h1 0 = sr L xs) (hm : pd_get h1 102 = ob 6 fs) (hB : Ca 170 [.ref 102, .int (ii (xs ((i : Int) + 1))), .long (ll (lg (xs ((i : Int) + 2)) (xs ((i : Int) + 3))))] h1 (.inl (some (.int (ii b))), h2)) (hm2 : pd_get h2 102 = ob 6 fs2) (hT : Ca 107 [.ref 102] h2 (.inl (some (.int (ii kk))), h2)) (ho : pd_get h2 116 = lr 1 o) (ho2 : o 0 = b) (hb : -2147483648 ≤ b ∧ b ≤ 2147483647) (hkk : kk = 0) (hk : ∀ w5 w6 w7 : Value, Rn 201 1951 [.ref 0, .ref 1, .ref 102, .ref 116, .int (ii (i : Int)), w5, w6, w7] [] h2 r) : Rn 201 1540 [.ref 0, .ref 1, .ref 102, .ref 116, .int (ii (i : Int)), w5, w6, w7] [] h0 r := by
  refine E_aload pf_201_1540 rfl ?_
  refine E_aload pf_201_1541 rfl ?_
  refine E_iload pf_201_1542 rfl ?_
  refine E_iconst pf_201_1544 ?_
  refine E_iadd pf_201_1545 ?_
  refine E_sald pf_201_1546 hs0 (by omega) ?_
  refine E_aload pf_201_1547 rfl ?_
  refine E_iload pf_201_1548 rfl ?_
  refine E_iconst pf_201_1550 ?_
  refine E_iadd pf_201_1551 ?_
  refine E_sald pf_201_1552 hs0 (by omega) ?_
  refine E_i2l pf_201_1553 (hx _) ?_
  refine E_iconst pf_201_1554 ?_
  refine E_lshl pf_201_1556 ?_
  refine E_aload pf_201_1557 rfl ?_
  refine E_iload pf_201_1558 rfl ?_
  refine E_iconst pf_201_1560 ?_
  refine E_iadd pf_201_1561 ?_
  refine E_sald pf_201_1562 hs0 (by omega) ?_
  refine E_i2l pf_201_1563 (hx _) ?_
  refine E_lconst pf_201_1564 ?_
  refine E_land pf_201_1567 ?_
  refine E_lor pf_201_1568 ?_
  refine E_top (congrArg Value.long (lg_ok (xs ((i : Int) + 2)) (xs ((i : Int) + 3)))) ?_
  refine E_aload pf_201_1569 rfl ?_
  refine E_c4v pf_201_1570 rfl hA ?_
  refine E_istore (lv' := [_, _, _, _, _, _, _, _]) pf_201_1573 rfl rfl ?_
  refine E_aload pf_201_1575 rfl ?_
  refine E_aload pf_201_1576 rfl ?_
  refine E_iload pf_201_1577 rfl ?_
  refine E_iconst pf_201_1579 ?_
  refine E_iadd pf_201_1580 ?_
  refine E_sald pf_201_1581 hs1 (by omega) ?_
  refine E_aload pf_201_1582 rfl ?_
  refine E_iload pf_201_1583 rfl ?_
  refine E_iconst pf_201_1585 ?_
  refine E_iadd pf_201_1586 ?_
  refine E_sald pf_201_1587 hs1 (by omega) ?_
  refine E_i2l pf_201_1588 (hx _) ?_
  refine E_iconst pf_201_1589 ?_
  refine E_lshl pf_201_1591 ?_
  refine E_aload pf_201_1592 rfl ?_
  refine E_iload pf_201_1593 rfl ?_
  refine E_iconst pf_201_1595 ?_
  refine E_iadd pf_201_1596 ?_
  refine E_sald pf_201_1597 hs1 (by omega) ?_
  refine E_i2l pf_201_1598 (hx _) ?_
  refine E_lconst pf_201_1599 ?_
  refine E_land pf_201_1602 ?_
  refine E_lor pf_201_1603 ?_
  refine E_top (congrArg Value.long (lg_ok (xs ((i : Int) + 2)) (xs ((i : Int) + 3)))) ?_
  refine E_v3v pf_201_1604 hm rfl hB ?_
  refine E_istore (lv' := [_, _, _, _, _, _, _, _]) pf_201_1607 rfl rfl ?_
  refine E_aload pf_201_1609 rfl ?_
  refine E_v1v pf_201_1610 hm2 rfl hT ?_
  refine E_iload pf_201_1613 rfl ?_
  refine E_icmp_eq_t pf_201_1615 (by omega) ?_
  refine E_iload pf_201_1620 rfl ?_
  refine E_if_ne_f pf_201_1622 (by omega) ?_
  refine E_aload pf_201_1625 rfl ?_
  refine E_iconst pf_201_1626 ?_
  refine E_lald pf_201_1627 ho (by omega) ?_
  refine E_iload pf_201_1628 rfl ?_
  refine E_i2l pf_201_1630 hb ?_
  refine E_lcmp_eq_t pf_201_1631 pf_201_1632 (by omega) ?_
  refine E_goto pf_201_1637 ?_
  exact hk _ _ _
theorem l27x (hL : (i : Int) + 5 ≤ L) (hL2 : L ≤ 2560) (hx : ∀ q : Int, -2147483648 ≤ xs q ∧ xs q ≤ 2147483647) (hs0 : pd_get h0 0 = sr L xs) (hA : Ca 196 [.ref 1, .int (ii (xs ((i : Int) + 1))), .long (ll (lg (xs ((i : Int) + 2)) (xs ((i : Int) + 3)))), .ref 116] h0 (.inl (some (.int (ii kk))), h1)) (hs1 : pd_get h1 0 = sr L xs) (hm : pd_get h1 102 = ob 6 fs) (hB : Ca 170 [.ref 102, .int (ii (xs ((i : Int) + 1))), .long (ll (lg (xs ((i : Int) + 2)) (xs ((i : Int) + 3))))] h1 (.inl (some (.int (ii b))), h2)) (hm2 : pd_get h2 102 = ob 6 fs2) (hT : Ca 107 [.ref 102] h2 (.inl (some (.int (ii kk))), h2)) (hkk : 1 ≤ kk ∧ kk ≤ 2) (hk : ∀ w5 w6 w7 : Value, Rn 201 1951 [.ref 0, .ref 1, .ref 102, .ref 116, .int (ii (i : Int)), w5, w6, w7] [] h2 r) : Rn 201 1540 [.ref 0, .ref 1, .ref 102, .ref 116, .int (ii (i : Int)), w5, w6, w7] [] h0 r := by
  refine E_aload pf_201_1540 rfl ?_
  refine E_aload pf_201_1541 rfl ?_
  refine E_iload pf_201_1542 rfl ?_
  refine E_iconst pf_201_1544 ?_
  refine E_iadd pf_201_1545 ?_
  refine E_sald pf_201_1546 hs0 (by omega) ?_
  refine E_aload pf_201_1547 rfl ?_
  refine E_iload pf_201_1548 rfl ?_
  refine E_iconst pf_201_1550 ?_
  refine E_iadd pf_201_1551 ?_
  refine E_sald pf_201_1552 hs0 (by omega) ?_
  refine E_i2l pf_201_1553 (hx _) ?_
  refine E_iconst pf_201_1554 ?_
  refine E_lshl pf_201_1556 ?_
  refine E_aload pf_201_1557 rfl ?_
  refine E_iload pf_201_1558 rfl ?_
  refine E_iconst pf_201_1560 ?_
  refine E_iadd pf_201_1561 ?_
  refine E_sald pf_201_1562 hs0 (by omega) ?_
  refine E_i2l pf_201_1563 (hx _) ?_
  refine E_lconst pf_201_1564 ?_
  refine E_land pf_201_1567 ?_
  refine E_lor pf_201_1568 ?_
  refine E_top (congrArg Value.long (lg_ok (xs ((i : Int) + 2)) (xs ((i : Int) + 3)))) ?_
  refine E_aload pf_201_1569 rfl ?_
  refine E_c4v pf_201_1570 rfl hA ?_
  refine E_istore (lv' := [_, _, _, _, _, _, _, _]) pf_201_1573 rfl rfl ?_
  refine E_aload pf_201_1575 rfl ?_
  refine E_aload pf_201_1576 rfl ?_
  refine E_iload pf_201_1577 rfl ?_
  refine E_iconst pf_201_1579 ?_
  refine E_iadd pf_201_1580 ?_
  refine E_sald pf_201_1581 hs1 (by omega) ?_
  refine E_aload pf_201_1582 rfl ?_
  refine E_iload pf_201_1583 rfl ?_
  refine E_iconst pf_201_1585 ?_
  refine E_iadd pf_201_1586 ?_
  refine E_sald pf_201_1587 hs1 (by omega) ?_
  refine E_i2l pf_201_1588 (hx _) ?_
  refine E_iconst pf_201_1589 ?_
  refine E_lshl pf_201_1591 ?_
  refine E_aload pf_201_1592 rfl ?_
  refine E_iload pf_201_1593 rfl ?_
  refine E_iconst pf_201_1595 ?_
  refine E_iadd pf_201_1596 ?_
  refine E_sald pf_201_1597 hs1 (by omega) ?_
  refine E_i2l pf_201_1598 (hx _) ?_
  refine E_lconst pf_201_1599 ?_
  refine E_land pf_201_1602 ?_
  refine E_lor pf_201_1603 ?_
  refine E_top (congrArg Value.long (lg_ok (xs ((i : Int) + 2)) (xs ((i : Int) + 3)))) ?_
  refine E_v3v pf_201_1604 hm rfl hB ?_
  refine E_istore (lv' := [_, _, _, _, _, _, _, _]) pf_201_1607 rfl rfl ?_
  refine E_aload pf_201_1609 rfl ?_
  refine E_v1v pf_201_1610 hm2 rfl hT ?_
  refine E_iload pf_201_1613 rfl ?_
  refine E_icmp_eq_t pf_201_1615 (by omega) ?_
  refine E_iload pf_201_1620 rfl ?_
  refine E_if_ne_t pf_201_1622 (by omega) ?_
  refine E_goto pf_201_1637 ?_
  exact hk _ _ _
theorem l28 (hL : (i : Int) + 5 ≤ L) (hL2 : L ≤ 2560) (hx : ∀ q : Int, -2147483648 ≤ xs q ∧ xs q ≤ 2147483647) (hs0 : pd_get h0 0 = sr L xs) (hA : Ca 197 [.ref 1, .int (ii (xs ((i : Int) + 1))), .long (ll (lg (xs ((i : Int) + 2)) (xs ((i : Int) + 3)))), .ref 116] h0 (.inl (some (.int (ii kk))), h1)) (hs1 : pd_get h1 0 = sr L xs) (hm : pd_get h1 102 = ob 6 fs) (hB : Ca 174 [.ref 102, .int (ii (xs ((i : Int) + 1))), .long (ll (lg (xs ((i : Int) + 2)) (xs ((i : Int) + 3))))] h1 (.inl (some (.int (ii b))), h2)) (hm2 : pd_get h2 102 = ob 6 fs2) (hT : Ca 107 [.ref 102] h2 (.inl (some (.int (ii kk))), h2)) (ho : pd_get h2 116 = lr 1 o) (ho2 : o 0 = b) (hb : -2147483648 ≤ b ∧ b ≤ 2147483647) (hkk : kk = 0) (hk : ∀ w5 w6 w7 : Value, Rn 201 1951 [.ref 0, .ref 1, .ref 102, .ref 116, .int (ii (i : Int)), w5, w6, w7] [] h2 r) : Rn 201 1640 [.ref 0, .ref 1, .ref 102, .ref 116, .int (ii (i : Int)), w5, w6, w7] [] h0 r := by
  refine E_aload pf_201_1640 rfl ?_
  refine E_aload pf_201_1641 rfl ?_
  refine E_iload pf_201_1642 rfl ?_
  refine E_iconst pf_201_1644 ?_
  refine E_iadd pf_201_1645 ?_
  refine E_sald pf_201_1646 hs0 (by omega) ?_
  refine E_aload pf_201_1647 rfl ?_
  refine E_iload pf_201_1648 rfl ?_
  refine E_iconst pf_201_1650 ?_
  refine E_iadd pf_201_1651 ?_
  refine E_sald pf_201_1652 hs0 (by omega) ?_
  refine E_i2l pf_201_1653 (hx _) ?_
  refine E_iconst pf_201_1654 ?_
  refine E_lshl pf_201_1656 ?_
  refine E_aload pf_201_1657 rfl ?_
  refine E_iload pf_201_1658 rfl ?_
  refine E_iconst pf_201_1660 ?_
  refine E_iadd pf_201_1661 ?_
  refine E_sald pf_201_1662 hs0 (by omega) ?_
  refine E_i2l pf_201_1663 (hx _) ?_
  refine E_lconst pf_201_1664 ?_
  refine E_land pf_201_1667 ?_
  refine E_lor pf_201_1668 ?_
  refine E_top (congrArg Value.long (lg_ok (xs ((i : Int) + 2)) (xs ((i : Int) + 3)))) ?_
  refine E_aload pf_201_1669 rfl ?_
  refine E_c4v pf_201_1670 rfl hA ?_
  refine E_istore (lv' := [_, _, _, _, _, _, _, _]) pf_201_1673 rfl rfl ?_
  refine E_aload pf_201_1675 rfl ?_
  refine E_aload pf_201_1676 rfl ?_
  refine E_iload pf_201_1677 rfl ?_
  refine E_iconst pf_201_1679 ?_
  refine E_iadd pf_201_1680 ?_
  refine E_sald pf_201_1681 hs1 (by omega) ?_
  refine E_aload pf_201_1682 rfl ?_
  refine E_iload pf_201_1683 rfl ?_
  refine E_iconst pf_201_1685 ?_
  refine E_iadd pf_201_1686 ?_
  refine E_sald pf_201_1687 hs1 (by omega) ?_
  refine E_i2l pf_201_1688 (hx _) ?_
  refine E_iconst pf_201_1689 ?_
  refine E_lshl pf_201_1691 ?_
  refine E_aload pf_201_1692 rfl ?_
  refine E_iload pf_201_1693 rfl ?_
  refine E_iconst pf_201_1695 ?_
  refine E_iadd pf_201_1696 ?_
  refine E_sald pf_201_1697 hs1 (by omega) ?_
  refine E_i2l pf_201_1698 (hx _) ?_
  refine E_lconst pf_201_1699 ?_
  refine E_land pf_201_1702 ?_
  refine E_lor pf_201_1703 ?_
  refine E_top (congrArg Value.long (lg_ok (xs ((i : Int) + 2)) (xs ((i : Int) + 3)))) ?_
  refine E_v3v pf_201_1704 hm rfl hB ?_
  refine E_istore (lv' := [_, _, _, _, _, _, _, _]) pf_201_1707 rfl rfl ?_
  refine E_aload pf_201_1709 rfl ?_
  refine E_v1v pf_201_1710 hm2 rfl hT ?_
  refine E_iload pf_201_1713 rfl ?_
  refine E_icmp_eq_t pf_201_1715 (by omega) ?_
  refine E_iload pf_201_1720 rfl ?_
  refine E_if_ne_f pf_201_1722 (by omega) ?_
  refine E_aload pf_201_1725 rfl ?_
  refine E_iconst pf_201_1726 ?_
  refine E_lald pf_201_1727 ho (by omega) ?_
  refine E_iload pf_201_1728 rfl ?_
  refine E_i2l pf_201_1730 hb ?_
  refine E_lcmp_eq_t pf_201_1731 pf_201_1732 (by omega) ?_
  refine E_goto pf_201_1737 ?_
  exact hk _ _ _
theorem l28x (hL : (i : Int) + 5 ≤ L) (hL2 : L ≤ 2560) (hx : ∀ q : Int, -2147483648 ≤ xs q ∧ xs q ≤ 2147483647) (hs0 : pd_get h0 0 = sr L xs) (hA : Ca 197 [.ref 1, .int (ii (xs ((i : Int) + 1))), .long (ll (lg (xs ((i : Int) + 2)) (xs ((i : Int) + 3)))), .ref 116] h0 (.inl (some (.int (ii kk))), h1)) (hs1 : pd_get h1 0 = sr L xs) (hm : pd_get h1 102 = ob 6 fs) (hB : Ca 174 [.ref 102, .int (ii (xs ((i : Int) + 1))), .long (ll (lg (xs ((i : Int) + 2)) (xs ((i : Int) + 3))))] h1 (.inl (some (.int (ii b))), h2)) (hm2 : pd_get h2 102 = ob 6 fs2) (hT : Ca 107 [.ref 102] h2 (.inl (some (.int (ii kk))), h2)) (hkk : 1 ≤ kk ∧ kk ≤ 2) (hk : ∀ w5 w6 w7 : Value, Rn 201 1951 [.ref 0, .ref 1, .ref 102, .ref 116, .int (ii (i : Int)), w5, w6, w7] [] h2 r) : Rn 201 1640 [.ref 0, .ref 1, .ref 102, .ref 116, .int (ii (i : Int)), w5, w6, w7] [] h0 r := by
  refine E_aload pf_201_1640 rfl ?_
  refine E_aload pf_201_1641 rfl ?_
  refine E_iload pf_201_1642 rfl ?_
  refine E_iconst pf_201_1644 ?_
  refine E_iadd pf_201_1645 ?_
  refine E_sald pf_201_1646 hs0 (by omega) ?_
  refine E_aload pf_201_1647 rfl ?_
  refine E_iload pf_201_1648 rfl ?_
  refine E_iconst pf_201_1650 ?_
  refine E_iadd pf_201_1651 ?_
  refine E_sald pf_201_1652 hs0 (by omega) ?_
  refine E_i2l pf_201_1653 (hx _) ?_
  refine E_iconst pf_201_1654 ?_
  refine E_lshl pf_201_1656 ?_
  refine E_aload pf_201_1657 rfl ?_
  refine E_iload pf_201_1658 rfl ?_
  refine E_iconst pf_201_1660 ?_
  refine E_iadd pf_201_1661 ?_
  refine E_sald pf_201_1662 hs0 (by omega) ?_
  refine E_i2l pf_201_1663 (hx _) ?_
  refine E_lconst pf_201_1664 ?_
  refine E_land pf_201_1667 ?_
  refine E_lor pf_201_1668 ?_
  refine E_top (congrArg Value.long (lg_ok (xs ((i : Int) + 2)) (xs ((i : Int) + 3)))) ?_
  refine E_aload pf_201_1669 rfl ?_
  refine E_c4v pf_201_1670 rfl hA ?_
  refine E_istore (lv' := [_, _, _, _, _, _, _, _]) pf_201_1673 rfl rfl ?_
  refine E_aload pf_201_1675 rfl ?_
  refine E_aload pf_201_1676 rfl ?_
  refine E_iload pf_201_1677 rfl ?_
  refine E_iconst pf_201_1679 ?_
  refine E_iadd pf_201_1680 ?_
  refine E_sald pf_201_1681 hs1 (by omega) ?_
  refine E_aload pf_201_1682 rfl ?_
  refine E_iload pf_201_1683 rfl ?_
  refine E_iconst pf_201_1685 ?_
  refine E_iadd pf_201_1686 ?_
  refine E_sald pf_201_1687 hs1 (by omega) ?_
  refine E_i2l pf_201_1688 (hx _) ?_
  refine E_iconst pf_201_1689 ?_
  refine E_lshl pf_201_1691 ?_
  refine E_aload pf_201_1692 rfl ?_
  refine E_iload pf_201_1693 rfl ?_
  refine E_iconst pf_201_1695 ?_
  refine E_iadd pf_201_1696 ?_
  refine E_sald pf_201_1697 hs1 (by omega) ?_
  refine E_i2l pf_201_1698 (hx _) ?_
  refine E_lconst pf_201_1699 ?_
  refine E_land pf_201_1702 ?_
  refine E_lor pf_201_1703 ?_
  refine E_top (congrArg Value.long (lg_ok (xs ((i : Int) + 2)) (xs ((i : Int) + 3)))) ?_
  refine E_v3v pf_201_1704 hm rfl hB ?_
  refine E_istore (lv' := [_, _, _, _, _, _, _, _]) pf_201_1707 rfl rfl ?_
  refine E_aload pf_201_1709 rfl ?_
  refine E_v1v pf_201_1710 hm2 rfl hT ?_
  refine E_iload pf_201_1713 rfl ?_
  refine E_icmp_eq_t pf_201_1715 (by omega) ?_
  refine E_iload pf_201_1720 rfl ?_
  refine E_if_ne_t pf_201_1722 (by omega) ?_
  refine E_goto pf_201_1737 ?_
  exact hk _ _ _
theorem l29 (hL : (i : Int) + 5 ≤ L) (hL2 : L ≤ 2560) (hx : ∀ q : Int, -2147483648 ≤ xs q ∧ xs q ≤ 2147483647) (hs0 : pd_get h0 0 = sr L xs) (hA : Ca 198 [.ref 1, .long (ll (lg (xs ((i : Int) + 1)) (xs ((i : Int) + 2)))), .int (ii (xs ((i : Int) + 3))), .ref 116] h0 (.inl (some (.int (ii kk))), h1)) (hs1 : pd_get h1 0 = sr L xs) (hm : pd_get h1 102 = ob 6 fs) (hB : Ca 175 [.ref 102, .long (ll (lg (xs ((i : Int) + 1)) (xs ((i : Int) + 2)))), .int (ii (xs ((i : Int) + 3)))] h1 (.inl (some (.long (ll b))), h2)) (hm2 : pd_get h2 102 = ob 6 fs2) (hT : Ca 107 [.ref 102] h2 (.inl (some (.int (ii kk))), h2)) (ho : pd_get h2 116 = lr 1 o) (ho2 : o 0 = b) (hb : -9223372036854775808 ≤ b ∧ b ≤ 9223372036854775807) (hkk : kk = 0) (hk : ∀ w5 w6 w7 : Value, Rn 201 1951 [.ref 0, .ref 1, .ref 102, .ref 116, .int (ii (i : Int)), w5, w6, w7] [] h2 r) : Rn 201 1740 [.ref 0, .ref 1, .ref 102, .ref 116, .int (ii (i : Int)), w5, w6, w7] [] h0 r := by
  refine E_aload pf_201_1740 rfl ?_
  refine E_aload pf_201_1741 rfl ?_
  refine E_iload pf_201_1742 rfl ?_
  refine E_iconst pf_201_1744 ?_
  refine E_iadd pf_201_1745 ?_
  refine E_sald pf_201_1746 hs0 (by omega) ?_
  refine E_i2l pf_201_1747 (hx _) ?_
  refine E_iconst pf_201_1748 ?_
  refine E_lshl pf_201_1750 ?_
  refine E_aload pf_201_1751 rfl ?_
  refine E_iload pf_201_1752 rfl ?_
  refine E_iconst pf_201_1754 ?_
  refine E_iadd pf_201_1755 ?_
  refine E_sald pf_201_1756 hs0 (by omega) ?_
  refine E_i2l pf_201_1757 (hx _) ?_
  refine E_lconst pf_201_1758 ?_
  refine E_land pf_201_1761 ?_
  refine E_lor pf_201_1762 ?_
  refine E_top (congrArg Value.long (lg_ok (xs ((i : Int) + 1)) (xs ((i : Int) + 2)))) ?_
  refine E_aload pf_201_1763 rfl ?_
  refine E_iload pf_201_1764 rfl ?_
  refine E_iconst pf_201_1766 ?_
  refine E_iadd pf_201_1767 ?_
  refine E_sald pf_201_1768 hs0 (by omega) ?_
  refine E_aload pf_201_1769 rfl ?_
  refine E_c4v pf_201_1770 rfl hA ?_
  refine E_istore (lv' := [_, _, _, _, _, _, _, _]) pf_201_1773 rfl rfl ?_
  refine E_aload pf_201_1775 rfl ?_
  refine E_aload pf_201_1776 rfl ?_
  refine E_iload pf_201_1777 rfl ?_
  refine E_iconst pf_201_1779 ?_
  refine E_iadd pf_201_1780 ?_
  refine E_sald pf_201_1781 hs1 (by omega) ?_
  refine E_i2l pf_201_1782 (hx _) ?_
  refine E_iconst pf_201_1783 ?_
  refine E_lshl pf_201_1785 ?_
  refine E_aload pf_201_1786 rfl ?_
  refine E_iload pf_201_1787 rfl ?_
  refine E_iconst pf_201_1789 ?_
  refine E_iadd pf_201_1790 ?_
  refine E_sald pf_201_1791 hs1 (by omega) ?_
  refine E_i2l pf_201_1792 (hx _) ?_
  refine E_lconst pf_201_1793 ?_
  refine E_land pf_201_1796 ?_
  refine E_lor pf_201_1797 ?_
  refine E_top (congrArg Value.long (lg_ok (xs ((i : Int) + 1)) (xs ((i : Int) + 2)))) ?_
  refine E_aload pf_201_1798 rfl ?_
  refine E_iload pf_201_1799 rfl ?_
  refine E_iconst pf_201_1801 ?_
  refine E_iadd pf_201_1802 ?_
  refine E_sald pf_201_1803 hs1 (by omega) ?_
  refine E_v3v pf_201_1804 hm rfl hB ?_
  refine E_lstore (lv' := [_, _, _, _, _, _, _, _]) pf_201_1807 rfl rfl ?_
  refine E_aload pf_201_1809 rfl ?_
  refine E_v1v pf_201_1810 hm2 rfl hT ?_
  refine E_iload pf_201_1813 rfl ?_
  refine E_icmp_eq_t pf_201_1815 (by omega) ?_
  refine E_iload pf_201_1820 rfl ?_
  refine E_if_ne_f pf_201_1822 (by omega) ?_
  refine E_aload pf_201_1825 rfl ?_
  refine E_iconst pf_201_1826 ?_
  refine E_lald pf_201_1827 ho (by omega) ?_
  refine E_lload pf_201_1828 rfl ?_
  refine E_lcmp_eq_t pf_201_1830 pf_201_1831 (by omega) ?_
  refine E_goto pf_201_1836 ?_
  exact hk _ _ _
theorem l29x (hL : (i : Int) + 5 ≤ L) (hL2 : L ≤ 2560) (hx : ∀ q : Int, -2147483648 ≤ xs q ∧ xs q ≤ 2147483647) (hs0 : pd_get h0 0 = sr L xs) (hA : Ca 198 [.ref 1, .long (ll (lg (xs ((i : Int) + 1)) (xs ((i : Int) + 2)))), .int (ii (xs ((i : Int) + 3))), .ref 116] h0 (.inl (some (.int (ii kk))), h1)) (hs1 : pd_get h1 0 = sr L xs) (hm : pd_get h1 102 = ob 6 fs) (hB : Ca 175 [.ref 102, .long (ll (lg (xs ((i : Int) + 1)) (xs ((i : Int) + 2)))), .int (ii (xs ((i : Int) + 3)))] h1 (.inl (some (.long (ll b))), h2)) (hm2 : pd_get h2 102 = ob 6 fs2) (hT : Ca 107 [.ref 102] h2 (.inl (some (.int (ii kk))), h2)) (hkk : 1 ≤ kk ∧ kk ≤ 2) (hk : ∀ w5 w6 w7 : Value, Rn 201 1951 [.ref 0, .ref 1, .ref 102, .ref 116, .int (ii (i : Int)), w5, w6, w7] [] h2 r) : Rn 201 1740 [.ref 0, .ref 1, .ref 102, .ref 116, .int (ii (i : Int)), w5, w6, w7] [] h0 r := by
  refine E_aload pf_201_1740 rfl ?_
  refine E_aload pf_201_1741 rfl ?_
  refine E_iload pf_201_1742 rfl ?_
  refine E_iconst pf_201_1744 ?_
  refine E_iadd pf_201_1745 ?_
  refine E_sald pf_201_1746 hs0 (by omega) ?_
  refine E_i2l pf_201_1747 (hx _) ?_
  refine E_iconst pf_201_1748 ?_
  refine E_lshl pf_201_1750 ?_
  refine E_aload pf_201_1751 rfl ?_
  refine E_iload pf_201_1752 rfl ?_
  refine E_iconst pf_201_1754 ?_
  refine E_iadd pf_201_1755 ?_
  refine E_sald pf_201_1756 hs0 (by omega) ?_
  refine E_i2l pf_201_1757 (hx _) ?_
  refine E_lconst pf_201_1758 ?_
  refine E_land pf_201_1761 ?_
  refine E_lor pf_201_1762 ?_
  refine E_top (congrArg Value.long (lg_ok (xs ((i : Int) + 1)) (xs ((i : Int) + 2)))) ?_
  refine E_aload pf_201_1763 rfl ?_
  refine E_iload pf_201_1764 rfl ?_
  refine E_iconst pf_201_1766 ?_
  refine E_iadd pf_201_1767 ?_
  refine E_sald pf_201_1768 hs0 (by omega) ?_
  refine E_aload pf_201_1769 rfl ?_
  refine E_c4v pf_201_1770 rfl hA ?_
  refine E_istore (lv' := [_, _, _, _, _, _, _, _]) pf_201_1773 rfl rfl ?_
  refine E_aload pf_201_1775 rfl ?_
  refine E_aload pf_201_1776 rfl ?_
  refine E_iload pf_201_1777 rfl ?_
  refine E_iconst pf_201_1779 ?_
  refine E_iadd pf_201_1780 ?_
  refine E_sald pf_201_1781 hs1 (by omega) ?_
  refine E_i2l pf_201_1782 (hx _) ?_
  refine E_iconst pf_201_1783 ?_
  refine E_lshl pf_201_1785 ?_
  refine E_aload pf_201_1786 rfl ?_
  refine E_iload pf_201_1787 rfl ?_
  refine E_iconst pf_201_1789 ?_
  refine E_iadd pf_201_1790 ?_
  refine E_sald pf_201_1791 hs1 (by omega) ?_
  refine E_i2l pf_201_1792 (hx _) ?_
  refine E_lconst pf_201_1793 ?_
  refine E_land pf_201_1796 ?_
  refine E_lor pf_201_1797 ?_
  refine E_top (congrArg Value.long (lg_ok (xs ((i : Int) + 1)) (xs ((i : Int) + 2)))) ?_
  refine E_aload pf_201_1798 rfl ?_
  refine E_iload pf_201_1799 rfl ?_
  refine E_iconst pf_201_1801 ?_
  refine E_iadd pf_201_1802 ?_
  refine E_sald pf_201_1803 hs1 (by omega) ?_
  refine E_v3v pf_201_1804 hm rfl hB ?_
  refine E_lstore (lv' := [_, _, _, _, _, _, _, _]) pf_201_1807 rfl rfl ?_
  refine E_aload pf_201_1809 rfl ?_
  refine E_v1v pf_201_1810 hm2 rfl hT ?_
  refine E_iload pf_201_1813 rfl ?_
  refine E_icmp_eq_t pf_201_1815 (by omega) ?_
  refine E_iload pf_201_1820 rfl ?_
  refine E_if_ne_t pf_201_1822 (by omega) ?_
  refine E_goto pf_201_1836 ?_
  exact hk _ _ _
theorem l30 (hL : (i : Int) + 5 ≤ L) (hL2 : L ≤ 2560) (hx : ∀ q : Int, -2147483648 ≤ xs q ∧ xs q ≤ 2147483647) (hs0 : pd_get h0 0 = sr L xs) (hA : Ca 199 [.ref 1, .int (ii (xs ((i : Int) + 1))), .ref 116] h0 (.inl (some (.int (ii kk))), h1)) (hs1 : pd_get h1 0 = sr L xs) (hm : pd_get h1 102 = ob 6 fs) (hB : Ca 176 [.ref 102, .int (ii (xs ((i : Int) + 1)))] h1 (.inl (some (.int (ii b))), h2)) (hm2 : pd_get h2 102 = ob 6 fs2) (hT : Ca 107 [.ref 102] h2 (.inl (some (.int (ii kk))), h2)) (ho : pd_get h2 116 = lr 1 o) (ho2 : o 0 = b) (hb : -2147483648 ≤ b ∧ b ≤ 2147483647) (hkk : kk = 0) (hk : ∀ w5 w6 w7 : Value, Rn 201 1951 [.ref 0, .ref 1, .ref 102, .ref 116, .int (ii (i : Int)), w5, w6, w7] [] h2 r) : Rn 201 1839 [.ref 0, .ref 1, .ref 102, .ref 116, .int (ii (i : Int)), w5, w6, w7] [] h0 r := by
  refine E_aload pf_201_1839 rfl ?_
  refine E_aload pf_201_1840 rfl ?_
  refine E_iload pf_201_1841 rfl ?_
  refine E_iconst pf_201_1843 ?_
  refine E_iadd pf_201_1844 ?_
  refine E_sald pf_201_1845 hs0 (by omega) ?_
  refine E_aload pf_201_1846 rfl ?_
  refine E_c3v pf_201_1847 rfl hA ?_
  refine E_istore (lv' := [_, _, _, _, _, _, _, _]) pf_201_1850 rfl rfl ?_
  refine E_aload pf_201_1852 rfl ?_
  refine E_aload pf_201_1853 rfl ?_
  refine E_iload pf_201_1854 rfl ?_
  refine E_iconst pf_201_1856 ?_
  refine E_iadd pf_201_1857 ?_
  refine E_sald pf_201_1858 hs1 (by omega) ?_
  refine E_v2v pf_201_1859 hm rfl hB ?_
  refine E_istore (lv' := [_, _, _, _, _, _, _, _]) pf_201_1862 rfl rfl ?_
  refine E_aload pf_201_1864 rfl ?_
  refine E_v1v pf_201_1865 hm2 rfl hT ?_
  refine E_iload pf_201_1868 rfl ?_
  refine E_icmp_eq_t pf_201_1870 (by omega) ?_
  refine E_iload pf_201_1875 rfl ?_
  refine E_if_ne_f pf_201_1877 (by omega) ?_
  refine E_aload pf_201_1880 rfl ?_
  refine E_iconst pf_201_1881 ?_
  refine E_lald pf_201_1882 ho (by omega) ?_
  refine E_iload pf_201_1883 rfl ?_
  refine E_i2l pf_201_1885 hb ?_
  refine E_lcmp_eq_t pf_201_1886 pf_201_1887 (by omega) ?_
  refine E_goto pf_201_1892 ?_
  exact hk _ _ _
theorem l30x (hL : (i : Int) + 5 ≤ L) (hL2 : L ≤ 2560) (hx : ∀ q : Int, -2147483648 ≤ xs q ∧ xs q ≤ 2147483647) (hs0 : pd_get h0 0 = sr L xs) (hA : Ca 199 [.ref 1, .int (ii (xs ((i : Int) + 1))), .ref 116] h0 (.inl (some (.int (ii kk))), h1)) (hs1 : pd_get h1 0 = sr L xs) (hm : pd_get h1 102 = ob 6 fs) (hB : Ca 176 [.ref 102, .int (ii (xs ((i : Int) + 1)))] h1 (.inl (some (.int (ii b))), h2)) (hm2 : pd_get h2 102 = ob 6 fs2) (hT : Ca 107 [.ref 102] h2 (.inl (some (.int (ii kk))), h2)) (hkk : 1 ≤ kk ∧ kk ≤ 2) (hk : ∀ w5 w6 w7 : Value, Rn 201 1951 [.ref 0, .ref 1, .ref 102, .ref 116, .int (ii (i : Int)), w5, w6, w7] [] h2 r) : Rn 201 1839 [.ref 0, .ref 1, .ref 102, .ref 116, .int (ii (i : Int)), w5, w6, w7] [] h0 r := by
  refine E_aload pf_201_1839 rfl ?_
  refine E_aload pf_201_1840 rfl ?_
  refine E_iload pf_201_1841 rfl ?_
  refine E_iconst pf_201_1843 ?_
  refine E_iadd pf_201_1844 ?_
  refine E_sald pf_201_1845 hs0 (by omega) ?_
  refine E_aload pf_201_1846 rfl ?_
  refine E_c3v pf_201_1847 rfl hA ?_
  refine E_istore (lv' := [_, _, _, _, _, _, _, _]) pf_201_1850 rfl rfl ?_
  refine E_aload pf_201_1852 rfl ?_
  refine E_aload pf_201_1853 rfl ?_
  refine E_iload pf_201_1854 rfl ?_
  refine E_iconst pf_201_1856 ?_
  refine E_iadd pf_201_1857 ?_
  refine E_sald pf_201_1858 hs1 (by omega) ?_
  refine E_v2v pf_201_1859 hm rfl hB ?_
  refine E_istore (lv' := [_, _, _, _, _, _, _, _]) pf_201_1862 rfl rfl ?_
  refine E_aload pf_201_1864 rfl ?_
  refine E_v1v pf_201_1865 hm2 rfl hT ?_
  refine E_iload pf_201_1868 rfl ?_
  refine E_icmp_eq_t pf_201_1870 (by omega) ?_
  refine E_iload pf_201_1875 rfl ?_
  refine E_if_ne_t pf_201_1877 (by omega) ?_
  refine E_goto pf_201_1892 ?_
  exact hk _ _ _
theorem l31 (hL : (i : Int) + 5 ≤ L) (hL2 : L ≤ 2560) (hx : ∀ q : Int, -2147483648 ≤ xs q ∧ xs q ≤ 2147483647) (hs0 : pd_get h0 0 = sr L xs) (hA : Ca 200 [.ref 1, .int (ii (xs ((i : Int) + 1))), .ref 116] h0 (.inl (some (.int (ii kk))), h1)) (hs1 : pd_get h1 0 = sr L xs) (hm : pd_get h1 102 = ob 6 fs) (hB : Ca 177 [.ref 102, .int (ii (xs ((i : Int) + 1)))] h1 (.inl (some (.int (ii b))), h2)) (hm2 : pd_get h2 102 = ob 6 fs2) (hT : Ca 107 [.ref 102] h2 (.inl (some (.int (ii kk))), h2)) (ho : pd_get h2 116 = lr 1 o) (ho2 : o 0 = b) (hb : -2147483648 ≤ b ∧ b ≤ 2147483647) (hkk : kk = 0) (hk : ∀ w5 w6 w7 : Value, Rn 201 1951 [.ref 0, .ref 1, .ref 102, .ref 116, .int (ii (i : Int)), w5, w6, w7] [] h2 r) : Rn 201 1895 [.ref 0, .ref 1, .ref 102, .ref 116, .int (ii (i : Int)), w5, w6, w7] [] h0 r := by
  refine E_aload pf_201_1895 rfl ?_
  refine E_aload pf_201_1896 rfl ?_
  refine E_iload pf_201_1897 rfl ?_
  refine E_iconst pf_201_1899 ?_
  refine E_iadd pf_201_1900 ?_
  refine E_sald pf_201_1901 hs0 (by omega) ?_
  refine E_aload pf_201_1902 rfl ?_
  refine E_c3v pf_201_1903 rfl hA ?_
  refine E_istore (lv' := [_, _, _, _, _, _, _, _]) pf_201_1906 rfl rfl ?_
  refine E_aload pf_201_1908 rfl ?_
  refine E_aload pf_201_1909 rfl ?_
  refine E_iload pf_201_1910 rfl ?_
  refine E_iconst pf_201_1912 ?_
  refine E_iadd pf_201_1913 ?_
  refine E_sald pf_201_1914 hs1 (by omega) ?_
  refine E_v2v pf_201_1915 hm rfl hB ?_
  refine E_istore (lv' := [_, _, _, _, _, _, _, _]) pf_201_1918 rfl rfl ?_
  refine E_aload pf_201_1920 rfl ?_
  refine E_v1v pf_201_1921 hm2 rfl hT ?_
  refine E_iload pf_201_1924 rfl ?_
  refine E_icmp_eq_t pf_201_1926 (by omega) ?_
  refine E_iload pf_201_1931 rfl ?_
  refine E_if_ne_f pf_201_1933 (by omega) ?_
  refine E_aload pf_201_1936 rfl ?_
  refine E_iconst pf_201_1937 ?_
  refine E_lald pf_201_1938 ho (by omega) ?_
  refine E_iload pf_201_1939 rfl ?_
  refine E_i2l pf_201_1941 hb ?_
  refine E_lcmp_eq_t pf_201_1942 pf_201_1943 (by omega) ?_
  refine E_goto pf_201_1948 ?_
  exact hk _ _ _
theorem l31x (hL : (i : Int) + 5 ≤ L) (hL2 : L ≤ 2560) (hx : ∀ q : Int, -2147483648 ≤ xs q ∧ xs q ≤ 2147483647) (hs0 : pd_get h0 0 = sr L xs) (hA : Ca 200 [.ref 1, .int (ii (xs ((i : Int) + 1))), .ref 116] h0 (.inl (some (.int (ii kk))), h1)) (hs1 : pd_get h1 0 = sr L xs) (hm : pd_get h1 102 = ob 6 fs) (hB : Ca 177 [.ref 102, .int (ii (xs ((i : Int) + 1)))] h1 (.inl (some (.int (ii b))), h2)) (hm2 : pd_get h2 102 = ob 6 fs2) (hT : Ca 107 [.ref 102] h2 (.inl (some (.int (ii kk))), h2)) (hkk : 1 ≤ kk ∧ kk ≤ 2) (hk : ∀ w5 w6 w7 : Value, Rn 201 1951 [.ref 0, .ref 1, .ref 102, .ref 116, .int (ii (i : Int)), w5, w6, w7] [] h2 r) : Rn 201 1895 [.ref 0, .ref 1, .ref 102, .ref 116, .int (ii (i : Int)), w5, w6, w7] [] h0 r := by
  refine E_aload pf_201_1895 rfl ?_
  refine E_aload pf_201_1896 rfl ?_
  refine E_iload pf_201_1897 rfl ?_
  refine E_iconst pf_201_1899 ?_
  refine E_iadd pf_201_1900 ?_
  refine E_sald pf_201_1901 hs0 (by omega) ?_
  refine E_aload pf_201_1902 rfl ?_
  refine E_c3v pf_201_1903 rfl hA ?_
  refine E_istore (lv' := [_, _, _, _, _, _, _, _]) pf_201_1906 rfl rfl ?_
  refine E_aload pf_201_1908 rfl ?_
  refine E_aload pf_201_1909 rfl ?_
  refine E_iload pf_201_1910 rfl ?_
  refine E_iconst pf_201_1912 ?_
  refine E_iadd pf_201_1913 ?_
  refine E_sald pf_201_1914 hs1 (by omega) ?_
  refine E_v2v pf_201_1915 hm rfl hB ?_
  refine E_istore (lv' := [_, _, _, _, _, _, _, _]) pf_201_1918 rfl rfl ?_
  refine E_aload pf_201_1920 rfl ?_
  refine E_v1v pf_201_1921 hm2 rfl hT ?_
  refine E_iload pf_201_1924 rfl ?_
  refine E_icmp_eq_t pf_201_1926 (by omega) ?_
  refine E_iload pf_201_1931 rfl ?_
  refine E_if_ne_t pf_201_1933 (by omega) ?_
  refine E_goto pf_201_1948 ?_
  exact hk _ _ _
end LAWC
