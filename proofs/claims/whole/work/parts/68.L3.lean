/-! each of the law's cases, 1 -/
set_option maxHeartbeats 1000000 in
theorem law_letter {X : XX} {Z : ZZ} {l : Launch} {a : Nat → Nat → Nat} {b h k L : Nat} {q : Nat → Nat} {xs : Nat → Int32} (hX : Okk X Z code 4 "NeverBothDoorsLaw" l 11) (hW : LawX X b L xs) (hL : L ≤ 1536) (hk : 3 * k + 2 < L) (ih : ∀ Sn Sm Sk T V U S, Rel Sn Sk T U S → G X Z (wX Z a Sn Sm Sk T V U ++ wM Z h q S) 824 (lvL a b h k) []) {Sn Sm Sk T V U S : St} (hr : Rel Sn Sk T U S) : G X Z (wX Z a Sn Sm Sk T V U ++ wM Z h q S) 160 (lvL a b h k) [] := by
  obtain ⟨nP, nL, o, t, c, u, hB⟩ := hr.1
  obtain ⟨nT, hTI⟩ := hr.2.1
  obtain ⟨nR, hRI⟩ := hr.2.2.1
  have hB0 := hB
  obtain ⟨hP, hP5, hLn, hL7, hLk, hc1, h46, hV, hVa, hu, hu5, hu6, hE⟩ := hB0
  clear h46 hVa hu6
  have hX2 := e_letter hr hB hTI (xs (3 * k + 1))
  refine g_aload_n hX dL_law_160 1 rfl ?_
  refine law_arg hX hW hL 1 (by omega) rfl dL_law_161 dL_law_162 dL_law_163 dL_law_164 dL_law_165 ?_
  refine law_callX hX (con_X_letter l Z a Sn Sm Sk T V U (xs (3 * k + 1)) nT hTI.1 hTI.2.1) mvX_letter q_159 rfl (by decide) rfl rfl (Nat.le_of_ble_eq_true rfl) dL_law_166 (fun Sm1 V1 => ?_)
  refine g_aload_n hX dL_law_169 2 rfl ?_
  refine law_arg hX hW hL 1 (by omega) rfl dL_law_170 dL_law_171 dL_law_172 dL_law_173 dL_law_174 ?_
  refine law_callP hX (con_M_letter l Z h q S (xs (3 * k + 1)) nT hTI.2.2.1 hTI.2.1) mvM_letter q_672 rfl (by decide) rfl rfl (Nat.le_of_ble_eq_true rfl) dL_law_175 ?_
  exact law_end hX dL_law_178 rfl hX2.1 (ih _ _ _ _ _ _ _ hX2.2)
set_option maxHeartbeats 1000000 in
theorem law_burrow {X : XX} {Z : ZZ} {l : Launch} {a : Nat → Nat → Nat} {b h k L : Nat} {q : Nat → Nat} {xs : Nat → Int32} (hX : Okk X Z code 4 "NeverBothDoorsLaw" l 11) (hW : LawX X b L xs) (hL : L ≤ 1536) (hk : 3 * k + 2 < L) (ih : ∀ Sn Sm Sk T V U S, Rel Sn Sk T U S → G X Z (wX Z a Sn Sm Sk T V U ++ wM Z h q S) 824 (lvL a b h k) []) {Sn Sm Sk T V U S : St} (hr : Rel Sn Sk T U S) : G X Z (wX Z a Sn Sm Sk T V U ++ wM Z h q S) 183 (lvL a b h k) [] := by
  obtain ⟨nP, nL, o, t, c, u, hB⟩ := hr.1
  obtain ⟨nT, hTI⟩ := hr.2.1
  obtain ⟨nR, hRI⟩ := hr.2.2.1
  have hB0 := hB
  obtain ⟨hP, hP5, hLn, hL7, hLk, hc1, h46, hV, hVa, hu, hu5, hu6, hE⟩ := hB0
  clear h46 hVa hu6
  have hX2 := e_burrow hr hTI
  refine g_aload_n hX dL_law_183 1 rfl ?_
  refine law_callX hX (con_X_burrow l Z a Sn Sm Sk T V U nP nL hP hP5 hLn hL7 nT hTI.1 hTI.2.1) mvX_burrow q_171 rfl (by decide) rfl rfl (Nat.le_of_ble_eq_true rfl) dL_law_184 (fun Sm1 V1 => ?_)
  refine g_aload_n hX dL_law_187 2 rfl ?_
  refine law_callM hX (con_M_burrow l Z h q S nT hTI.2.2.1 hTI.2.1 hTI.2.2.2.2 nP nL ((hE.2.2 1 (by omega)).trans hP) hP5 ((hE.2.2 0 (by omega)).trans hLn) hL7) mvM_burrow q_680 rfl (by decide) rfl rfl (Nat.le_of_ble_eq_true rfl) dL_law_188 (fun S2 hs => ?_)
  exact law_end hX dL_law_191 rfl hX2.1 (ih _ _ _ _ _ _ _ (hX2.2.scr8 hs))
set_option maxHeartbeats 1000000 in
theorem law_room {X : XX} {Z : ZZ} {l : Launch} {a : Nat → Nat → Nat} {b h k L : Nat} {q : Nat → Nat} {xs : Nat → Int32} (hX : Okk X Z code 4 "NeverBothDoorsLaw" l 11) (hW : LawX X b L xs) (hL : L ≤ 1536) (hk : 3 * k + 2 < L) (ih : ∀ Sn Sm Sk T V U S, Rel Sn Sk T U S → G X Z (wX Z a Sn Sm Sk T V U ++ wM Z h q S) 824 (lvL a b h k) []) {Sn Sm Sk T V U S : St} (hr : Rel Sn Sk T U S) : G X Z (wX Z a Sn Sm Sk T V U ++ wM Z h q S) 196 (lvL a b h k) [] := by
  obtain ⟨nP, nL, o, t, c, u, hB⟩ := hr.1
  obtain ⟨nT, hTI⟩ := hr.2.1
  obtain ⟨nR, hRI⟩ := hr.2.2.1
  have hB0 := hB
  obtain ⟨hP, hP5, hLn, hL7, hLk, hc1, h46, hV, hVa, hu, hu5, hu6, hE⟩ := hB0
  clear h46 hVa hu6
  have hX2 := e_room hr hB (xs (3 * k + 1)) (xs (3 * k + 2))
  refine g_aload_n hX dL_law_196 1 rfl ?_
  refine law_arg hX hW hL 1 (by omega) rfl dL_law_197 dL_law_198 dL_law_199 dL_law_200 dL_law_201 ?_
  refine law_arg hX hW hL 2 (by omega) rfl dL_law_202 dL_law_203 dL_law_204 dL_law_205 dL_law_206 ?_
  refine law_callX hX (con_X_room l Z a Sn Sm Sk T V U (xs (3 * k + 1)) (xs (3 * k + 2)) nP nL hP hP5 hLn hL7) mvX_room q_314 rfl (by decide) rfl rfl (Nat.le_of_ble_eq_true rfl) dL_law_207 (fun Sm1 V1 => ?_)
  refine g_aload_n hX dL_law_210 2 rfl ?_
  refine law_arg hX hW hL 1 (by omega) rfl dL_law_211 dL_law_212 dL_law_213 dL_law_214 dL_law_215 ?_
  refine law_arg hX hW hL 2 (by omega) rfl dL_law_216 dL_law_217 dL_law_218 dL_law_219 dL_law_220 ?_
  refine law_callP hX (con_M_room l Z h q S (xs (3 * k + 1)) (xs (3 * k + 2)) nP ((hE.2.2 1 (by omega)).trans hP) hP5) mvM_room q_773 rfl (by decide) rfl rfl (Nat.le_of_ble_eq_true rfl) dL_law_221 ?_
  exact law_end hX dL_law_224 rfl hX2.1 (ih _ _ _ _ _ _ _ hX2.2)
set_option maxHeartbeats 1000000 in
theorem law_lock {X : XX} {Z : ZZ} {l : Launch} {a : Nat → Nat → Nat} {b h k L : Nat} {q : Nat → Nat} {xs : Nat → Int32} (hX : Okk X Z code 4 "NeverBothDoorsLaw" l 11) (hW : LawX X b L xs) (hL : L ≤ 1536) (hk : 3 * k + 2 < L) (ih : ∀ Sn Sm Sk T V U S, Rel Sn Sk T U S → G X Z (wX Z a Sn Sm Sk T V U ++ wM Z h q S) 824 (lvL a b h k) []) {Sn Sm Sk T V U S : St} (hr : Rel Sn Sk T U S) : G X Z (wX Z a Sn Sm Sk T V U ++ wM Z h q S) 229 (lvL a b h k) [] := by
  obtain ⟨nP, nL, o, t, c, u, hB⟩ := hr.1
  obtain ⟨nT, hTI⟩ := hr.2.1
  obtain ⟨nR, hRI⟩ := hr.2.2.1
  have hB0 := hB
  obtain ⟨hP, hP5, hLn, hL7, hLk, hc1, h46, hV, hVa, hu, hu5, hu6, hE⟩ := hB0
  clear h46 hVa hu6
  have hX2 := e_lock hr hB (xs (3 * k + 1)) (xs (3 * k + 2))
  refine g_aload_n hX dL_law_229 1 rfl ?_
  refine law_arg hX hW hL 1 (by omega) rfl dL_law_230 dL_law_231 dL_law_232 dL_law_233 dL_law_234 ?_
  refine law_arg hX hW hL 2 (by omega) rfl dL_law_235 dL_law_236 dL_law_237 dL_law_238 dL_law_239 ?_
  refine law_callX hX (con_X_lock l Z a Sn Sm Sk T V U (xs (3 * k + 1)) (xs (3 * k + 2)) nP nL hP hP5 hLn hL7) mvX_lock q_331 rfl (by decide) rfl rfl (Nat.le_of_ble_eq_true rfl) dL_law_240 (fun Sm1 V1 => ?_)
  refine g_aload_n hX dL_law_243 2 rfl ?_
  refine law_arg hX hW hL 1 (by omega) rfl dL_law_244 dL_law_245 dL_law_246 dL_law_247 dL_law_248 ?_
  refine law_arg hX hW hL 2 (by omega) rfl dL_law_249 dL_law_250 dL_law_251 dL_law_252 dL_law_253 ?_
  refine law_callP hX (con_M_lock l Z h q S (xs (3 * k + 1)) (xs (3 * k + 2)) nL ((hE.2.2 0 (by omega)).trans hLn) (Nat.le_trans hL7 (by decide))) mvM_lock q_792 rfl (by decide) rfl rfl (Nat.le_of_ble_eq_true rfl) dL_law_254 ?_
  exact law_end hX dL_law_257 rfl hX2.1 (ih _ _ _ _ _ _ _ hX2.2)
set_option maxHeartbeats 1000000 in
theorem law_person {X : XX} {Z : ZZ} {l : Launch} {a : Nat → Nat → Nat} {b h k L : Nat} {q : Nat → Nat} {xs : Nat → Int32} (hX : Okk X Z code 4 "NeverBothDoorsLaw" l 11) (hW : LawX X b L xs) (hL : L ≤ 1536) (hk : 3 * k + 2 < L) (ih : ∀ Sn Sm Sk T V U S, Rel Sn Sk T U S → G X Z (wX Z a Sn Sm Sk T V U ++ wM Z h q S) 824 (lvL a b h k) []) {Sn Sm Sk T V U S : St} (hr : Rel Sn Sk T U S) : G X Z (wX Z a Sn Sm Sk T V U ++ wM Z h q S) 262 (lvL a b h k) [] := by
  obtain ⟨nP, nL, o, t, c, u, hB⟩ := hr.1
  obtain ⟨nT, hTI⟩ := hr.2.1
  obtain ⟨nR, hRI⟩ := hr.2.2.1
  have hB0 := hB
  obtain ⟨hP, hP5, hLn, hL7, hLk, hc1, h46, hV, hVa, hu, hu5, hu6, hE⟩ := hB0
  clear h46 hVa hu6
  have hX2 := e_person hr hB (xs (3 * k + 1)) (xs (3 * k + 2))
  refine g_aload_n hX dL_law_262 1 rfl ?_
  refine law_arg hX hW hL 1 (by omega) rfl dL_law_263 dL_law_264 dL_law_265 dL_law_266 dL_law_267 ?_
  refine law_arg hX hW hL 2 (by omega) rfl dL_law_268 dL_law_269 dL_law_270 dL_law_271 dL_law_272 ?_
  refine law_callX hX (con_X_person l Z a Sn Sm Sk T V U (xs (3 * k + 1)) (xs (3 * k + 2)) nP nL hP hP5 hLn hL7) mvX_person q_339 rfl (by decide) rfl rfl (Nat.le_of_ble_eq_true rfl) dL_law_273 (fun Sm1 V1 => ?_)
  refine g_aload_n hX dL_law_276 2 rfl ?_
  refine law_arg hX hW hL 1 (by omega) rfl dL_law_277 dL_law_278 dL_law_279 dL_law_280 dL_law_281 ?_
  refine law_arg hX hW hL 2 (by omega) rfl dL_law_282 dL_law_283 dL_law_284 dL_law_285 dL_law_286 ?_
  refine law_callP hX (con_M_person l Z h q S (xs (3 * k + 1)) (xs (3 * k + 2)) nP ((hE.2.2 1 (by omega)).trans hP) hP5) mvM_person q_800 rfl (by decide) rfl rfl (Nat.le_of_ble_eq_true rfl) dL_law_287 ?_
  exact law_end hX dL_law_290 rfl hX2.1 (ih _ _ _ _ _ _ _ hX2.2)
set_option maxHeartbeats 1000000 in
theorem law_open {X : XX} {Z : ZZ} {l : Launch} {a : Nat → Nat → Nat} {b h k L : Nat} {q : Nat → Nat} {xs : Nat → Int32} (hX : Okk X Z code 4 "NeverBothDoorsLaw" l 11) (hW : LawX X b L xs) (hL : L ≤ 1536) (hk : 3 * k + 2 < L) (ih : ∀ Sn Sm Sk T V U S, Rel Sn Sk T U S → G X Z (wX Z a Sn Sm Sk T V U ++ wM Z h q S) 824 (lvL a b h k) []) {Sn Sm Sk T V U S : St} (hr : Rel Sn Sk T U S) : G X Z (wX Z a Sn Sm Sk T V U ++ wM Z h q S) 295 (lvL a b h k) [] := by
  obtain ⟨nP, nL, o, t, c, u, hB⟩ := hr.1
  obtain ⟨nT, hTI⟩ := hr.2.1
  obtain ⟨nR, hRI⟩ := hr.2.2.1
  have hB0 := hB
  obtain ⟨hP, hP5, hLn, hL7, hLk, hc1, h46, hV, hVa, hu, hu5, hu6, hE⟩ := hB0
  clear h46 hVa hu6
  have hX2 := e_open hr hB (xs (3 * k + 1)) (xs (3 * k + 2))
  refine g_aload_n hX dL_law_295 1 rfl ?_
  refine law_arg hX hW hL 1 (by omega) rfl dL_law_296 dL_law_297 dL_law_298 dL_law_299 dL_law_300 ?_
  refine law_arg hX hW hL 2 (by omega) rfl dL_law_301 dL_law_302 dL_law_303 dL_law_304 dL_law_305 ?_
  refine law_callX hX (con_X_open l Z a Sn Sm Sk T V U (xs (3 * k + 1)) (xs (3 * k + 2)) nP nL hP hP5 hLn hL7) mvX_open q_352 rfl (by decide) rfl rfl (Nat.le_of_ble_eq_true rfl) dL_law_306 (fun Sm1 V1 => ?_)
  refine g_aload_n hX dL_law_309 2 rfl ?_
  refine law_arg hX hW hL 1 (by omega) rfl dL_law_310 dL_law_311 dL_law_312 dL_law_313 dL_law_314 ?_
  refine law_arg hX hW hL 2 (by omega) rfl dL_law_315 dL_law_316 dL_law_317 dL_law_318 dL_law_319 ?_
  refine law_callP hX (con_M_open l Z h q S (xs (3 * k + 1)) (xs (3 * k + 2)) nL ((hE.2.2 0 (by omega)).trans hLn) (Nat.le_trans hL7 (by decide))) mvM_open q_808 rfl (by decide) rfl rfl (Nat.le_of_ble_eq_true rfl) dL_law_320 ?_
  exact law_end hX dL_law_323 rfl hX2.1 (ih _ _ _ _ _ _ _ hX2.2)
set_option maxHeartbeats 1000000 in
theorem law_passes {X : XX} {Z : ZZ} {l : Launch} {a : Nat → Nat → Nat} {b h k L : Nat} {q : Nat → Nat} {xs : Nat → Int32} (hX : Okk X Z code 4 "NeverBothDoorsLaw" l 11) (hW : LawX X b L xs) (hL : L ≤ 1536) (hk : 3 * k + 2 < L) (ih : ∀ Sn Sm Sk T V U S, Rel Sn Sk T U S → G X Z (wX Z a Sn Sm Sk T V U ++ wM Z h q S) 824 (lvL a b h k) []) {Sn Sm Sk T V U S : St} (hr : Rel Sn Sk T U S) : G X Z (wX Z a Sn Sm Sk T V U ++ wM Z h q S) 328 (lvL a b h k) [] := by
  obtain ⟨nP, nL, o, t, c, u, hB⟩ := hr.1
  obtain ⟨nT, hTI⟩ := hr.2.1
  obtain ⟨nR, hRI⟩ := hr.2.2.1
  have hB0 := hB
  obtain ⟨hP, hP5, hLn, hL7, hLk, hc1, h46, hV, hVa, hu, hu5, hu6, hE⟩ := hB0
  clear h46 hVa hu6
  have hX2 := e_passes hr hB (xs (3 * k + 1)) (xs (3 * k + 2))
  refine g_aload_n hX dL_law_328 1 rfl ?_
  refine law_arg hX hW hL 1 (by omega) rfl dL_law_329 dL_law_330 dL_law_331 dL_law_332 dL_law_333 ?_
  refine law_arg hX hW hL 2 (by omega) rfl dL_law_334 dL_law_335 dL_law_336 dL_law_337 dL_law_338 ?_
  refine law_callX hX (con_X_passes l Z a Sn Sm Sk T V U (xs (3 * k + 1)) (xs (3 * k + 2)) nP nL hP hP5 hLn hL7 (fun g hg => ⟨c g, (hLk g hg).2.2.2.2.2.2, (hLk g hg).2.2.1⟩)) mvX_passes q_356 rfl (by decide) rfl rfl (Nat.le_of_ble_eq_true rfl) dL_law_339 (fun Sm1 V1 => ?_)
  refine g_aload_n hX dL_law_342 2 rfl ?_
  refine law_arg hX hW hL 1 (by omega) rfl dL_law_343 dL_law_344 dL_law_345 dL_law_346 dL_law_347 ?_
  refine law_arg hX hW hL 2 (by omega) rfl dL_law_348 dL_law_349 dL_law_350 dL_law_351 dL_law_352 ?_
  refine law_callP hX (con_M_passes l Z h q S (xs (3 * k + 1)) (xs (3 * k + 2)) nP ((hE.2.2 1 (by omega)).trans hP) hP5 nL ((hE.2.2 0 (by omega)).trans hLn) (Nat.le_trans hL7 (by decide)) o t c (hLk.eq9 hE) (hV.eq9 hE)) mvM_passes q_812 rfl (by decide) rfl rfl (Nat.le_of_ble_eq_true rfl) dL_law_353 ?_
  exact law_end hX dL_law_356 rfl hX2.1 (ih _ _ _ _ _ _ _ hX2.2)
set_option maxHeartbeats 1000000 in
theorem law_minutes {X : XX} {Z : ZZ} {l : Launch} {a : Nat → Nat → Nat} {b h k L : Nat} {q : Nat → Nat} {xs : Nat → Int32} (hX : Okk X Z code 4 "NeverBothDoorsLaw" l 11) (hW : LawX X b L xs) (hL : L ≤ 1536) (hk : 3 * k + 2 < L) (ih : ∀ Sn Sm Sk T V U S, Rel Sn Sk T U S → G X Z (wX Z a Sn Sm Sk T V U ++ wM Z h q S) 824 (lvL a b h k) []) {Sn Sm Sk T V U S : St} (hr : Rel Sn Sk T U S) : G X Z (wX Z a Sn Sm Sk T V U ++ wM Z h q S) 361 (lvL a b h k) [] := by
  obtain ⟨nP, nL, o, t, c, u, hB⟩ := hr.1
  obtain ⟨nT, hTI⟩ := hr.2.1
  obtain ⟨nR, hRI⟩ := hr.2.2.1
  have hB0 := hB
  obtain ⟨hP, hP5, hLn, hL7, hLk, hc1, h46, hV, hVa, hu, hu5, hu6, hE⟩ := hB0
  clear h46 hVa hu6
  have hX2 := e_minutes hr hB (xs (3 * k + 1))
  refine g_aload_n hX dL_law_361 1 rfl ?_
  refine law_arg hX hW hL 1 (by omega) rfl dL_law_362 dL_law_363 dL_law_364 dL_law_365 dL_law_366 ?_
  refine law_callX hX (con_X_minutes l Z a Sn Sm Sk T V U (xs (3 * k + 1)) nP nL hP hP5 hLn hL7) mvX_minutes q_379 rfl (by decide) rfl rfl (Nat.le_of_ble_eq_true rfl) dL_law_367 (fun Sm1 V1 => ?_)
  refine g_aload_n hX dL_law_370 2 rfl ?_
  refine law_arg hX hW hL 1 (by omega) rfl dL_law_371 dL_law_372 dL_law_373 dL_law_374 dL_law_375 ?_
  refine law_callP hX (con_M_minutes l Z h q S (xs (3 * k + 1)) nP ((hE.2.2 1 (by omega)).trans hP) hP5 (hV.eq9 hE)) mvM_minutes q_828 rfl (by decide) rfl rfl (Nat.le_of_ble_eq_true rfl) dL_law_376 ?_
  exact law_end hX dL_law_379 rfl hX2.1 (ih _ _ _ _ _ _ _ hX2.2)
set_option maxHeartbeats 1000000 in
theorem law_leak {X : XX} {Z : ZZ} {l : Launch} {a : Nat → Nat → Nat} {b h k L : Nat} {q : Nat → Nat} {xs : Nat → Int32} (hX : Okk X Z code 4 "NeverBothDoorsLaw" l 11) (hW : LawX X b L xs) (hL : L ≤ 1536) (hk : 3 * k + 2 < L) (ih : ∀ Sn Sm Sk T V U S, Rel Sn Sk T U S → G X Z (wX Z a Sn Sm Sk T V U ++ wM Z h q S) 824 (lvL a b h k) []) {Sn Sm Sk T V U S : St} (hr : Rel Sn Sk T U S) : G X Z (wX Z a Sn Sm Sk T V U ++ wM Z h q S) 384 (lvL a b h k) [] := by
  obtain ⟨nP, nL, o, t, c, u, hB⟩ := hr.1
  obtain ⟨nT, hTI⟩ := hr.2.1
  obtain ⟨nR, hRI⟩ := hr.2.2.1
  have hB0 := hB
  obtain ⟨hP, hP5, hLn, hL7, hLk, hc1, h46, hV, hVa, hu, hu5, hu6, hE⟩ := hB0
  clear h46 hVa hu6
  have hX2 := e_leak hr hB (xs (3 * k + 1)) (xs (3 * k + 2))
  refine g_aload_n hX dL_law_384 1 rfl ?_
  refine law_arg hX hW hL 1 (by omega) rfl dL_law_385 dL_law_386 dL_law_387 dL_law_388 dL_law_389 ?_
  refine law_arg hX hW hL 2 (by omega) rfl dL_law_390 dL_law_391 dL_law_392 dL_law_393 dL_law_394 ?_
  refine law_callX hX (con_X_leak l Z a Sn Sm Sk T V U (xs (3 * k + 1)) (xs (3 * k + 2)) nP nL hP hP5 hLn hL7) mvX_leak q_384 rfl (by decide) rfl rfl (Nat.le_of_ble_eq_true rfl) dL_law_395 (fun Sm1 V1 => ?_)
  refine g_aload_n hX dL_law_398 2 rfl ?_
  refine law_arg hX hW hL 1 (by omega) rfl dL_law_399 dL_law_400 dL_law_401 dL_law_402 dL_law_403 ?_
  refine law_arg hX hW hL 2 (by omega) rfl dL_law_404 dL_law_405 dL_law_406 dL_law_407 dL_law_408 ?_
  refine law_callP hX (con_M_leak l Z h q S (xs (3 * k + 1)) (xs (3 * k + 2))) mvM_leak q_832 rfl (by decide) rfl rfl (Nat.le_of_ble_eq_true rfl) dL_law_409 ?_
  exact law_end hX dL_law_412 rfl hX2.1 (ih _ _ _ _ _ _ _ hX2.2)
set_option maxHeartbeats 1000000 in
theorem law_air {X : XX} {Z : ZZ} {l : Launch} {a : Nat → Nat → Nat} {b h k L : Nat} {q : Nat → Nat} {xs : Nat → Int32} (hX : Okk X Z code 4 "NeverBothDoorsLaw" l 11) (hW : LawX X b L xs) (hL : L ≤ 1536) (hk : 3 * k + 2 < L) (ih : ∀ Sn Sm Sk T V U S, Rel Sn Sk T U S → G X Z (wX Z a Sn Sm Sk T V U ++ wM Z h q S) 824 (lvL a b h k) []) {Sn Sm Sk T V U S : St} (hr : Rel Sn Sk T U S) : G X Z (wX Z a Sn Sm Sk T V U ++ wM Z h q S) 417 (lvL a b h k) [] := by
  obtain ⟨nP, nL, o, t, c, u, hB⟩ := hr.1
  obtain ⟨nT, hTI⟩ := hr.2.1
  obtain ⟨nR, hRI⟩ := hr.2.2.1
  have hB0 := hB
  obtain ⟨hP, hP5, hLn, hL7, hLk, hc1, h46, hV, hVa, hu, hu5, hu6, hE⟩ := hB0
  clear h46 hVa hu6
  have hX2 := e_air hr hB (xs (3 * k + 1)) (xs (3 * k + 2))
  refine g_aload_n hX dL_law_417 1 rfl ?_
  refine law_arg hX hW hL 1 (by omega) rfl dL_law_418 dL_law_419 dL_law_420 dL_law_421 dL_law_422 ?_
  refine law_arg hX hW hL 2 (by omega) rfl dL_law_423 dL_law_424 dL_law_425 dL_law_426 dL_law_427 ?_
  refine law_callX hX (con_X_air l Z a Sn Sm Sk T V U (xs (3 * k + 1)) (xs (3 * k + 2)) nP nL hP hP5 hLn hL7) mvX_air q_388 rfl (by decide) rfl rfl (Nat.le_of_ble_eq_true rfl) dL_law_428 (fun Sm1 V1 => ?_)
  refine g_aload_n hX dL_law_431 2 rfl ?_
  refine law_arg hX hW hL 1 (by omega) rfl dL_law_432 dL_law_433 dL_law_434 dL_law_435 dL_law_436 ?_
  refine law_arg hX hW hL 2 (by omega) rfl dL_law_437 dL_law_438 dL_law_439 dL_law_440 dL_law_441 ?_
  refine law_callM hX (con_M_air l Z h q S (xs (3 * k + 1)) (xs (3 * k + 2)) nP ((hE.2.2 1 (by omega)).trans hP) hP5 8 (hV.eq9 hE)) mvM_air q_836 rfl (by decide) rfl rfl (Nat.le_of_ble_eq_true rfl) dL_law_442 (fun S2 hs => ?_)
  exact law_end hX dL_law_445 rfl hX2.1 (ih _ _ _ _ _ _ _ (hX2.2.scr8 hs))
set_option maxHeartbeats 1000000 in
theorem law_gasps {X : XX} {Z : ZZ} {l : Launch} {a : Nat → Nat → Nat} {b h k L : Nat} {q : Nat → Nat} {xs : Nat → Int32} (hX : Okk X Z code 4 "NeverBothDoorsLaw" l 11) (hW : LawX X b L xs) (hL : L ≤ 1536) (hk : 3 * k + 2 < L) (ih : ∀ Sn Sm Sk T V U S, Rel Sn Sk T U S → G X Z (wX Z a Sn Sm Sk T V U ++ wM Z h q S) 824 (lvL a b h k) []) {Sn Sm Sk T V U S : St} (hr : Rel Sn Sk T U S) : G X Z (wX Z a Sn Sm Sk T V U ++ wM Z h q S) 450 (lvL a b h k) [] := by
  obtain ⟨nP, nL, o, t, c, u, hB⟩ := hr.1
  obtain ⟨nT, hTI⟩ := hr.2.1
  obtain ⟨nR, hRI⟩ := hr.2.2.1
  have hB0 := hB
  obtain ⟨hP, hP5, hLn, hL7, hLk, hc1, h46, hV, hVa, hu, hu5, hu6, hE⟩ := hB0
  clear h46 hVa hu6
  have hX2 := e_gasps hr hB (xs (3 * k + 1))
  refine g_aload_n hX dL_law_450 1 rfl ?_
  refine law_arg hX hW hL 1 (by omega) rfl dL_law_451 dL_law_452 dL_law_453 dL_law_454 dL_law_455 ?_
  refine law_callX hX (con_X_gasps l Z a Sn Sm Sk T V U (xs (3 * k + 1)) nP nL hP hP5 hLn hL7) mvX_gasps q_396 rfl (by decide) rfl rfl (Nat.le_of_ble_eq_true rfl) dL_law_456 (fun Sm1 V1 => ?_)
  refine g_aload_n hX dL_law_459 2 rfl ?_
  refine law_arg hX hW hL 1 (by omega) rfl dL_law_460 dL_law_461 dL_law_462 dL_law_463 dL_law_464 ?_
  refine law_callM hX (con_M_gasps l Z h q S (xs (3 * k + 1)) nP ((hE.2.2 1 (by omega)).trans hP) hP5 8 (hV.eq9 hE)) mvM_gasps q_840 rfl (by decide) rfl rfl (Nat.le_of_ble_eq_true rfl) dL_law_465 (fun S2 hs => ?_)
  exact law_end hX dL_law_468 rfl hX2.1 (ih _ _ _ _ _ _ _ (hX2.2.scr8 hs))
set_option maxHeartbeats 1000000 in
theorem law_out {X : XX} {Z : ZZ} {l : Launch} {a : Nat → Nat → Nat} {b h k L : Nat} {q : Nat → Nat} {xs : Nat → Int32} (hX : Okk X Z code 4 "NeverBothDoorsLaw" l 11) (hW : LawX X b L xs) (hL : L ≤ 1536) (hk : 3 * k + 2 < L) (ih : ∀ Sn Sm Sk T V U S, Rel Sn Sk T U S → G X Z (wX Z a Sn Sm Sk T V U ++ wM Z h q S) 824 (lvL a b h k) []) {Sn Sm Sk T V U S : St} (hr : Rel Sn Sk T U S) : G X Z (wX Z a Sn Sm Sk T V U ++ wM Z h q S) 473 (lvL a b h k) [] := by
  obtain ⟨nP, nL, o, t, c, u, hB⟩ := hr.1
  obtain ⟨nT, hTI⟩ := hr.2.1
  obtain ⟨nR, hRI⟩ := hr.2.2.1
  have hB0 := hB
  obtain ⟨hP, hP5, hLn, hL7, hLk, hc1, h46, hV, hVa, hu, hu5, hu6, hE⟩ := hB0
  clear h46 hVa hu6
  have hX2 := e_out hr hB
  refine g_aload_n hX dL_law_473 1 rfl ?_
  refine law_callX hX (con_X_out l Z a Sn Sm Sk T V U nP nL hP hP5 hLn hL7) mvX_out q_400 rfl (by decide) rfl rfl (Nat.le_of_ble_eq_true rfl) dL_law_474 (fun Sm1 V1 => ?_)
  refine g_aload_n hX dL_law_477 2 rfl ?_
  refine law_callM hX (con_M_out l Z h q S nP ((hE.2.2 1 (by omega)).trans hP) hP5 8 (hV.eq9 hE)) mvM_out q_844 rfl (by decide) rfl rfl (Nat.le_of_ble_eq_true rfl) dL_law_478 (fun S2 hs => ?_)
  exact law_end hX dL_law_481 rfl hX2.1 (ih _ _ _ _ _ _ _ (hX2.2.scr8 hs))
set_option maxHeartbeats 1000000 in
theorem law_way {X : XX} {Z : ZZ} {l : Launch} {a : Nat → Nat → Nat} {b h k L : Nat} {q : Nat → Nat} {xs : Nat → Int32} (hX : Okk X Z code 4 "NeverBothDoorsLaw" l 11) (hW : LawX X b L xs) (hL : L ≤ 1536) (hk : 3 * k + 2 < L) (ih : ∀ Sn Sm Sk T V U S, Rel Sn Sk T U S → G X Z (wX Z a Sn Sm Sk T V U ++ wM Z h q S) 824 (lvL a b h k) []) {Sn Sm Sk T V U S : St} (hr : Rel Sn Sk T U S) : G X Z (wX Z a Sn Sm Sk T V U ++ wM Z h q S) 486 (lvL a b h k) [] := by
  obtain ⟨nP, nL, o, t, c, u, hB⟩ := hr.1
  obtain ⟨nT, hTI⟩ := hr.2.1
  obtain ⟨nR, hRI⟩ := hr.2.2.1
  have hB0 := hB
  obtain ⟨hP, hP5, hLn, hL7, hLk, hc1, h46, hV, hVa, hu, hu5, hu6, hE⟩ := hB0
  clear h46 hVa hu6
  have hX2 := e_way hr hB (xs (3 * k + 1)) (xs (3 * k + 2))
  refine g_aload_n hX dL_law_486 1 rfl ?_
  refine law_arg hX hW hL 1 (by omega) rfl dL_law_487 dL_law_488 dL_law_489 dL_law_490 dL_law_491 ?_
  refine law_arg hX hW hL 2 (by omega) rfl dL_law_492 dL_law_493 dL_law_494 dL_law_495 dL_law_496 ?_
  refine law_callX hX (con_X_way l Z a Sn Sm Sk T V U (xs (3 * k + 1)) (xs (3 * k + 2)) nL o t c hLn hL7 hLk) mvX_way q_405 rfl (by decide) rfl rfl (Nat.le_of_ble_eq_true rfl) dL_law_497 (fun Sm1 V1 => ?_)
  refine g_aload_n hX dL_law_500 2 rfl ?_
  refine law_arg hX hW hL 1 (by omega) rfl dL_law_501 dL_law_502 dL_law_503 dL_law_504 dL_law_505 ?_
  refine law_arg hX hW hL 2 (by omega) rfl dL_law_506 dL_law_507 dL_law_508 dL_law_509 dL_law_510 ?_
  refine law_callM hX (con_M_way l Z h q S (xs (3 * k + 1)) (xs (3 * k + 2)) nL ((hE.2.2 0 (by omega)).trans hLn) (Nat.le_trans hL7 (by decide)) o t c (hLk.eq9 hE) hc1) mvM_way q_848 rfl (by decide) rfl rfl (Nat.le_of_ble_eq_true rfl) dL_law_511 (fun S2 hs => ?_)
  exact law_end hX dL_law_514 rfl hX2.1 (ih _ _ _ _ _ _ _ (hX2.2.scr (by unfold xf_way; (repeat' split) <;> exact hLn) (Nat.le_trans hL7 (by decide)) hs))
set_option maxHeartbeats 1000000 in
theorem law_soonest {X : XX} {Z : ZZ} {l : Launch} {a : Nat → Nat → Nat} {b h k L : Nat} {q : Nat → Nat} {xs : Nat → Int32} (hX : Okk X Z code 4 "NeverBothDoorsLaw" l 11) (hW : LawX X b L xs) (hL : L ≤ 1536) (hk : 3 * k + 2 < L) (ih : ∀ Sn Sm Sk T V U S, Rel Sn Sk T U S → G X Z (wX Z a Sn Sm Sk T V U ++ wM Z h q S) 824 (lvL a b h k) []) {Sn Sm Sk T V U S : St} (hr : Rel Sn Sk T U S) : G X Z (wX Z a Sn Sm Sk T V U ++ wM Z h q S) 519 (lvL a b h k) [] := by
  obtain ⟨nP, nL, o, t, c, u, hB⟩ := hr.1
  obtain ⟨nT, hTI⟩ := hr.2.1
  obtain ⟨nR, hRI⟩ := hr.2.2.1
  have hB0 := hB
  obtain ⟨hP, hP5, hLn, hL7, hLk, hc1, h46, hV, hVa, hu, hu5, hu6, hE⟩ := hB0
  clear h46 hVa hu6
  have hX2 := e_soonest hr hB (xs (3 * k + 1))
  refine g_aload_n hX dL_law_519 1 rfl ?_
  refine law_arg hX hW hL 1 (by omega) rfl dL_law_520 dL_law_521 dL_law_522 dL_law_523 dL_law_524 ?_
  refine law_callX hX (con_X_soonest l Z a Sn Sm Sk T V U (xs (3 * k + 1)) nL o t c hLn hL7 hLk) mvX_soonest q_429 rfl (by decide) rfl rfl (Nat.le_of_ble_eq_true rfl) dL_law_525 (fun Sm1 V1 => ?_)
  refine g_aload_n hX dL_law_528 2 rfl ?_
  refine law_arg hX hW hL 1 (by omega) rfl dL_law_529 dL_law_530 dL_law_531 dL_law_532 dL_law_533 ?_
  refine law_callM hX (con_M_soonest l Z h q S (xs (3 * k + 1)) nL ((hE.2.2 0 (by omega)).trans hLn) (Nat.le_trans hL7 (by decide)) o t c (hLk.eq9 hE) hc1) mvM_soonest q_859 rfl (by decide) rfl rfl (Nat.le_of_ble_eq_true rfl) dL_law_534 (fun S2 hs => ?_)
  exact law_end hX dL_law_537 rfl hX2.1 (ih _ _ _ _ _ _ _ (hX2.2.scr (by unfold xf_soonest; (repeat' split) <;> exact hLn) (Nat.le_trans hL7 (by decide)) hs))
