section LAW
variable {L : Nat} {xs : Nat → Int32} {c : Nat} {w : Wd} {i : Int32}
theorem lc_self (r : Int64) : lg_cmp r r = 0 := by unfold lg_cmp; simp
set_option maxHeartbeats 4000000 in
set_option maxRecDepth 100000 in
theorem law_0 (hJ : JW c w) (hc : c ≤ 1000) (h1 : vp_in (i + 1) L) (h2 : vp_in (i + 2) L) (h3 : vp_in (i + 3) L) (h4 : vp_in (i + 4) L) (nx : ∀ v, JW (c + 1) v → VL L xs 967 [some (.ref 44), some (.ref 0), some (.ref 1), some (.int i)] [] v) : VL L xs 160 [some (.ref 44), some (.ref 0), some (.ref 1), some (.int i)] [] w := by
  refine l_aload_n 161 dL_law_160 rfl rfl ?_
  refine l_arg 166 dL_law_161 dL_law_162 dL_law_163 dL_law_164 dL_law_165 rfl ki_1 h1 ?_
  refine l_cVI1 169 dL_law_166 rfl fvX3_write fiX3_write ml_L_13 seX3 rfl ⟨(Nat.le_of_ble_eq_true rfl), (Nat.le_of_ble_eq_true rfl)⟩ (Nat.le_of_ble_eq_true rfl) (Nat.le_of_ble_eq_true rfl) rfl (V.mono (j_write hJ) (fun a u k => ?_))
  obtain ⟨r, rfl, hv⟩ := k
  refine ⟨r, rfl, ?_⟩
  refine l_aload_n 170 dL_law_169 rfl rfl ?_
  refine l_arg 175 dL_law_170 dL_law_171 dL_law_172 dL_law_173 dL_law_174 rfl ki_1 h1 ?_
  refine l_cVI1 178 dL_law_175 rfl fvX4_write fiX4_write ml_L_17 seX4 rfl ⟨(Nat.le_of_ble_eq_true rfl), (Nat.le_of_ble_eq_true rfl)⟩ (Nat.le_of_ble_eq_true rfl) (Nat.le_of_ble_eq_true rfl) rfl (V.mono hv (fun a v k => ?_))
  obtain ⟨rfl, hw⟩ := k
  refine ⟨r, rfl, ?_⟩
  exact l_icmp_eq 967 181 dL_law_178 rfl rfl (fun _ => nx _ hw) (fun h => absurd rfl h)
set_option maxHeartbeats 4000000 in
set_option maxRecDepth 100000 in
theorem law_1 (hJ : JW c w) (hc : c ≤ 1000) (h1 : vp_in (i + 1) L) (h2 : vp_in (i + 2) L) (h3 : vp_in (i + 3) L) (h4 : vp_in (i + 4) L) (nx : ∀ v, JW (c + 1) v → VL L xs 967 [some (.ref 44), some (.ref 0), some (.ref 1), some (.int i)] [] v) : VL L xs 183 [some (.ref 44), some (.ref 0), some (.ref 1), some (.int i)] [] w := by
  refine l_aload_n 184 dL_law_183 rfl rfl ?_
  refine l_cVI0 187 dL_law_184 rfl fvX3_wipe fiX3_wipe ml_L_18 seX3 rfl ⟨(Nat.le_of_ble_eq_true rfl), (Nat.le_of_ble_eq_true rfl)⟩ (Nat.le_of_ble_eq_true rfl) (Nat.le_of_ble_eq_true rfl) rfl (V.mono (j_wipe hJ) (fun a u k => ?_))
  obtain ⟨r, rfl, hv⟩ := k
  refine ⟨r, rfl, ?_⟩
  refine l_aload_n 188 dL_law_187 rfl rfl ?_
  refine l_cVI0 191 dL_law_188 rfl fvX4_wipe fiX4_wipe ml_L_22 seX4 rfl ⟨(Nat.le_of_ble_eq_true rfl), (Nat.le_of_ble_eq_true rfl)⟩ (Nat.le_of_ble_eq_true rfl) (Nat.le_of_ble_eq_true rfl) rfl (V.mono hv (fun a v k => ?_))
  obtain ⟨rfl, hw⟩ := k
  refine ⟨r, rfl, ?_⟩
  exact l_icmp_eq 967 194 dL_law_191 rfl rfl (fun _ => nx _ hw) (fun h => absurd rfl h)
set_option maxHeartbeats 4000000 in
set_option maxRecDepth 100000 in
theorem law_2 (hJ : JW c w) (hc : c ≤ 1000) (h1 : vp_in (i + 1) L) (h2 : vp_in (i + 2) L) (h3 : vp_in (i + 3) L) (h4 : vp_in (i + 4) L) (nx : ∀ v, JW (c + 1) v → VL L xs 967 [some (.ref 44), some (.ref 0), some (.ref 1), some (.int i)] [] v) : VL L xs 196 [some (.ref 44), some (.ref 0), some (.ref 1), some (.int i)] [] w := by
  refine l_aload_n 197 dL_law_196 rfl rfl ?_
  refine l_cVI0 200 dL_law_197 rfl fvX3_fault fiX3_fault ml_L_23 seX3 rfl ⟨(Nat.le_of_ble_eq_true rfl), (Nat.le_of_ble_eq_true rfl)⟩ (Nat.le_of_ble_eq_true rfl) (Nat.le_of_ble_eq_true rfl) rfl (V.mono (j_fault hJ) (fun a u k => ?_))
  obtain ⟨r, rfl, hv⟩ := k
  refine ⟨r, rfl, ?_⟩
  refine l_aload_n 201 dL_law_200 rfl rfl ?_
  refine l_cVI0 204 dL_law_201 rfl fvX4_fault fiX4_fault ml_L_26 seX4 rfl ⟨(Nat.le_of_ble_eq_true rfl), (Nat.le_of_ble_eq_true rfl)⟩ (Nat.le_of_ble_eq_true rfl) (Nat.le_of_ble_eq_true rfl) rfl (V.mono hv (fun a v k => ?_))
  obtain ⟨rfl, hw⟩ := k
  refine ⟨r, rfl, ?_⟩
  exact l_icmp_eq 967 207 dL_law_204 rfl rfl (fun _ => nx _ hw) (fun h => absurd rfl h)
set_option maxHeartbeats 4000000 in
set_option maxRecDepth 100000 in
theorem law_3 (hJ : JW c w) (hc : c ≤ 1000) (h1 : vp_in (i + 1) L) (h2 : vp_in (i + 2) L) (h3 : vp_in (i + 3) L) (h4 : vp_in (i + 4) L) (nx : ∀ v, JW (c + 1) v → VL L xs 967 [some (.ref 44), some (.ref 0), some (.ref 1), some (.int i)] [] v) : VL L xs 209 [some (.ref 44), some (.ref 0), some (.ref 1), some (.int i)] [] w := by
  refine l_aload_n 210 dL_law_209 rfl rfl ?_
  refine l_cVI0 213 dL_law_210 rfl fvX3_album fiX3_album ml_L_27 seX3 rfl ⟨(Nat.le_of_ble_eq_true rfl), (Nat.le_of_ble_eq_true rfl)⟩ (Nat.le_of_ble_eq_true rfl) (Nat.le_of_ble_eq_true rfl) rfl (V.mono (j_album hJ) (fun a u k => ?_))
  obtain ⟨r, rfl, hv⟩ := k
  refine ⟨r, rfl, ?_⟩
  refine l_aload_n 214 dL_law_213 rfl rfl ?_
  refine l_cVI0 217 dL_law_214 rfl fvX4_album fiX4_album ml_L_30 seX4 rfl ⟨(Nat.le_of_ble_eq_true rfl), (Nat.le_of_ble_eq_true rfl)⟩ (Nat.le_of_ble_eq_true rfl) (Nat.le_of_ble_eq_true rfl) rfl (V.mono hv (fun a v k => ?_))
  obtain ⟨rfl, hw⟩ := k
  refine ⟨r, rfl, ?_⟩
  exact l_icmp_eq 967 220 dL_law_217 rfl rfl (fun _ => nx _ hw) (fun h => absurd rfl h)
set_option maxHeartbeats 4000000 in
set_option maxRecDepth 100000 in
theorem law_4 (hJ : JW c w) (hc : c ≤ 1000) (h1 : vp_in (i + 1) L) (h2 : vp_in (i + 2) L) (h3 : vp_in (i + 3) L) (h4 : vp_in (i + 4) L) (nx : ∀ v, JW (c + 1) v → VL L xs 967 [some (.ref 44), some (.ref 0), some (.ref 1), some (.int i)] [] v) : VL L xs 222 [some (.ref 44), some (.ref 0), some (.ref 1), some (.int i)] [] w := by
  refine l_aload_n 223 dL_law_222 rfl rfl ?_
  refine l_arg 228 dL_law_223 dL_law_224 dL_law_225 dL_law_226 dL_law_227 rfl ki_1 h1 ?_
  refine l_arg 233 dL_law_228 dL_law_229 dL_law_230 dL_law_231 dL_law_232 rfl ki_2 h2 ?_
  refine l_cVI2 236 dL_law_233 rfl fvX3_stamp fiX3_stamp ml_L_31 seX3 rfl ⟨(Nat.le_of_ble_eq_true rfl), (Nat.le_of_ble_eq_true rfl)⟩ (Nat.le_of_ble_eq_true rfl) (Nat.le_of_ble_eq_true rfl) rfl (V.mono (j_stamp hJ) (fun a u k => ?_))
  obtain ⟨r, rfl, hv⟩ := k
  refine ⟨r, rfl, ?_⟩
  refine l_aload_n 237 dL_law_236 rfl rfl ?_
  refine l_arg 242 dL_law_237 dL_law_238 dL_law_239 dL_law_240 dL_law_241 rfl ki_1 h1 ?_
  refine l_arg 247 dL_law_242 dL_law_243 dL_law_244 dL_law_245 dL_law_246 rfl ki_2 h2 ?_
  refine l_cVI2 250 dL_law_247 rfl fvX4_stamp fiX4_stamp ml_L_35 seX4 rfl ⟨(Nat.le_of_ble_eq_true rfl), (Nat.le_of_ble_eq_true rfl)⟩ (Nat.le_of_ble_eq_true rfl) (Nat.le_of_ble_eq_true rfl) rfl (V.mono hv (fun a v k => ?_))
  obtain ⟨rfl, hw⟩ := k
  refine ⟨r, rfl, ?_⟩
  exact l_icmp_eq 967 253 dL_law_250 rfl rfl (fun _ => nx _ hw) (fun h => absurd rfl h)
set_option maxHeartbeats 4000000 in
set_option maxRecDepth 100000 in
theorem law_5 (hJ : JW c w) (hc : c ≤ 1000) (h1 : vp_in (i + 1) L) (h2 : vp_in (i + 2) L) (h3 : vp_in (i + 3) L) (h4 : vp_in (i + 4) L) (nx : ∀ v, JW (c + 1) v → VL L xs 967 [some (.ref 44), some (.ref 0), some (.ref 1), some (.int i)] [] v) : VL L xs 255 [some (.ref 44), some (.ref 0), some (.ref 1), some (.int i)] [] w := by
  refine l_aload_n 256 dL_law_255 rfl rfl ?_
  refine l_arg 261 dL_law_256 dL_law_257 dL_law_258 dL_law_259 dL_law_260 rfl ki_1 h1 ?_
  refine l_arg 266 dL_law_261 dL_law_262 dL_law_263 dL_law_264 dL_law_265 rfl ki_2 h2 ?_
  refine l_cVI2 269 dL_law_266 rfl fvX3_letter fiX3_letter ml_L_36 seX3 rfl ⟨(Nat.le_of_ble_eq_true rfl), (Nat.le_of_ble_eq_true rfl)⟩ (Nat.le_of_ble_eq_true rfl) (Nat.le_of_ble_eq_true rfl) rfl (V.mono (j_letter hJ) (fun a u k => ?_))
  obtain ⟨r, rfl, hv⟩ := k
  refine ⟨r, rfl, ?_⟩
  refine l_aload_n 270 dL_law_269 rfl rfl ?_
  refine l_arg 275 dL_law_270 dL_law_271 dL_law_272 dL_law_273 dL_law_274 rfl ki_1 h1 ?_
  refine l_arg 280 dL_law_275 dL_law_276 dL_law_277 dL_law_278 dL_law_279 rfl ki_2 h2 ?_
  refine l_cVI2 283 dL_law_280 rfl fvX4_letter fiX4_letter ml_L_39 seX4 rfl ⟨(Nat.le_of_ble_eq_true rfl), (Nat.le_of_ble_eq_true rfl)⟩ (Nat.le_of_ble_eq_true rfl) (Nat.le_of_ble_eq_true rfl) rfl (V.mono hv (fun a v k => ?_))
  obtain ⟨rfl, hw⟩ := k
  refine ⟨r, rfl, ?_⟩
  exact l_icmp_eq 967 286 dL_law_283 rfl rfl (fun _ => nx _ hw) (fun h => absurd rfl h)
set_option maxHeartbeats 4000000 in
set_option maxRecDepth 100000 in
theorem law_6 (hJ : JW c w) (hc : c ≤ 1000) (h1 : vp_in (i + 1) L) (h2 : vp_in (i + 2) L) (h3 : vp_in (i + 3) L) (h4 : vp_in (i + 4) L) (nx : ∀ v, JW (c + 1) v → VL L xs 967 [some (.ref 44), some (.ref 0), some (.ref 1), some (.int i)] [] v) : VL L xs 288 [some (.ref 44), some (.ref 0), some (.ref 1), some (.int i)] [] w := by
  refine l_aload_n 289 dL_law_288 rfl rfl ?_
  refine l_cVI0 292 dL_law_289 rfl fvX3_week fiX3_week ml_L_40 seX3 rfl ⟨(Nat.le_of_ble_eq_true rfl), (Nat.le_of_ble_eq_true rfl)⟩ (Nat.le_of_ble_eq_true rfl) (Nat.le_of_ble_eq_true rfl) rfl (V.mono (j_week hJ) (fun a u k => ?_))
  obtain ⟨r, rfl, hv⟩ := k
  refine ⟨r, rfl, ?_⟩
  refine l_aload_n 293 dL_law_292 rfl rfl ?_
  refine l_cVI0 296 dL_law_293 rfl fvX4_week fiX4_week ml_L_43 seX4 rfl ⟨(Nat.le_of_ble_eq_true rfl), (Nat.le_of_ble_eq_true rfl)⟩ (Nat.le_of_ble_eq_true rfl) (Nat.le_of_ble_eq_true rfl) rfl (V.mono hv (fun a v k => ?_))
  obtain ⟨rfl, hw⟩ := k
  refine ⟨r, rfl, ?_⟩
  exact l_icmp_eq 967 299 dL_law_296 rfl rfl (fun _ => nx _ hw) (fun h => absurd rfl h)
set_option maxHeartbeats 4000000 in
set_option maxRecDepth 100000 in
theorem law_7 (hJ : JW c w) (hc : c ≤ 1000) (h1 : vp_in (i + 1) L) (h2 : vp_in (i + 2) L) (h3 : vp_in (i + 3) L) (h4 : vp_in (i + 4) L) (nx : ∀ v, JW (c + 1) v → VL L xs 967 [some (.ref 44), some (.ref 0), some (.ref 1), some (.int i)] [] v) : VL L xs 301 [some (.ref 44), some (.ref 0), some (.ref 1), some (.int i)] [] w := by
  refine l_aload_n 302 dL_law_301 rfl rfl ?_
  refine l_arg 307 dL_law_302 dL_law_303 dL_law_304 dL_law_305 dL_law_306 rfl ki_1 h1 ?_
  refine l_arg 312 dL_law_307 dL_law_308 dL_law_309 dL_law_310 dL_law_311 rfl ki_2 h2 ?_
  refine l_cVI2 315 dL_law_312 rfl fvX3_stick fiX3_stick ml_L_44 seX3 rfl ⟨(Nat.le_of_ble_eq_true rfl), (Nat.le_of_ble_eq_true rfl)⟩ (Nat.le_of_ble_eq_true rfl) (Nat.le_of_ble_eq_true rfl) rfl (V.mono (j_stick hJ) (fun a u k => ?_))
  obtain ⟨r, rfl, hv⟩ := k
  refine ⟨r, rfl, ?_⟩
  refine l_aload_n 316 dL_law_315 rfl rfl ?_
  refine l_arg 321 dL_law_316 dL_law_317 dL_law_318 dL_law_319 dL_law_320 rfl ki_1 h1 ?_
  refine l_arg 326 dL_law_321 dL_law_322 dL_law_323 dL_law_324 dL_law_325 rfl ki_2 h2 ?_
  refine l_cVI2 329 dL_law_326 rfl fvX4_stick fiX4_stick ml_L_47 seX4 rfl ⟨(Nat.le_of_ble_eq_true rfl), (Nat.le_of_ble_eq_true rfl)⟩ (Nat.le_of_ble_eq_true rfl) (Nat.le_of_ble_eq_true rfl) rfl (V.mono hv (fun a v k => ?_))
  obtain ⟨rfl, hw⟩ := k
  refine ⟨r, rfl, ?_⟩
  exact l_icmp_eq 967 332 dL_law_329 rfl rfl (fun _ => nx _ hw) (fun h => absurd rfl h)
set_option maxHeartbeats 4000000 in
set_option maxRecDepth 100000 in
theorem law_8 (hJ : JW c w) (hc : c ≤ 1000) (h1 : vp_in (i + 1) L) (h2 : vp_in (i + 2) L) (h3 : vp_in (i + 3) L) (h4 : vp_in (i + 4) L) (nx : ∀ v, JW (c + 1) v → VL L xs 967 [some (.ref 44), some (.ref 0), some (.ref 1), some (.int i)] [] v) : VL L xs 334 [some (.ref 44), some (.ref 0), some (.ref 1), some (.int i)] [] w := by
  refine l_aload_n 335 dL_law_334 rfl rfl ?_
  refine l_arg 340 dL_law_335 dL_law_336 dL_law_337 dL_law_338 dL_law_339 rfl ki_1 h1 ?_
  refine l_cVI1 343 dL_law_340 rfl fvX3_send fiX3_send ml_L_48 seX3 rfl ⟨(Nat.le_of_ble_eq_true rfl), (Nat.le_of_ble_eq_true rfl)⟩ (Nat.le_of_ble_eq_true rfl) (Nat.le_of_ble_eq_true rfl) rfl (V.mono (j_send hJ) (fun a u k => ?_))
  obtain ⟨r, rfl, hv⟩ := k
  refine ⟨r, rfl, ?_⟩
  refine l_aload_n 344 dL_law_343 rfl rfl ?_
  refine l_arg 349 dL_law_344 dL_law_345 dL_law_346 dL_law_347 dL_law_348 rfl ki_1 h1 ?_
  refine l_cVI1 352 dL_law_349 rfl fvX4_send fiX4_send ml_L_51 seX4 rfl ⟨(Nat.le_of_ble_eq_true rfl), (Nat.le_of_ble_eq_true rfl)⟩ (Nat.le_of_ble_eq_true rfl) (Nat.le_of_ble_eq_true rfl) rfl (V.mono hv (fun a v k => ?_))
  obtain ⟨rfl, hw⟩ := k
  refine ⟨r, rfl, ?_⟩
  exact l_icmp_eq 967 355 dL_law_352 rfl rfl (fun _ => nx _ hw) (fun h => absurd rfl h)
set_option maxHeartbeats 4000000 in
set_option maxRecDepth 100000 in
theorem law_9 (hJ : JW c w) (hc : c ≤ 1000) (h1 : vp_in (i + 1) L) (h2 : vp_in (i + 2) L) (h3 : vp_in (i + 3) L) (h4 : vp_in (i + 4) L) (nx : ∀ v, JW (c + 1) v → VL L xs 967 [some (.ref 44), some (.ref 0), some (.ref 1), some (.int i)] [] v) : VL L xs 357 [some (.ref 44), some (.ref 0), some (.ref 1), some (.int i)] [] w := by
  refine l_aload_n 358 dL_law_357 rfl rfl ?_
  refine l_arg 363 dL_law_358 dL_law_359 dL_law_360 dL_law_361 dL_law_362 rfl ki_1 h1 ?_
  refine l_arg 368 dL_law_363 dL_law_364 dL_law_365 dL_law_366 dL_law_367 rfl ki_2 h2 ?_
  refine l_cVI2 371 dL_law_368 rfl fvX3_part fiX3_part ml_L_52 seX3 rfl ⟨(Nat.le_of_ble_eq_true rfl), (Nat.le_of_ble_eq_true rfl)⟩ (Nat.le_of_ble_eq_true rfl) (Nat.le_of_ble_eq_true rfl) rfl (V.mono (j_part hJ) (fun a u k => ?_))
  obtain ⟨r, rfl, hv⟩ := k
  refine ⟨r, rfl, ?_⟩
  refine l_aload_n 372 dL_law_371 rfl rfl ?_
  refine l_arg 377 dL_law_372 dL_law_373 dL_law_374 dL_law_375 dL_law_376 rfl ki_1 h1 ?_
  refine l_arg 382 dL_law_377 dL_law_378 dL_law_379 dL_law_380 dL_law_381 rfl ki_2 h2 ?_
  refine l_cVI2 385 dL_law_382 rfl fvX4_part fiX4_part ml_L_55 seX4 rfl ⟨(Nat.le_of_ble_eq_true rfl), (Nat.le_of_ble_eq_true rfl)⟩ (Nat.le_of_ble_eq_true rfl) (Nat.le_of_ble_eq_true rfl) rfl (V.mono hv (fun a v k => ?_))
  obtain ⟨rfl, hw⟩ := k
  refine ⟨r, rfl, ?_⟩
  exact l_icmp_eq 967 388 dL_law_385 rfl rfl (fun _ => nx _ hw) (fun h => absurd rfl h)
set_option maxHeartbeats 4000000 in
set_option maxRecDepth 100000 in
theorem law_10 (hJ : JW c w) (hc : c ≤ 1000) (h1 : vp_in (i + 1) L) (h2 : vp_in (i + 2) L) (h3 : vp_in (i + 3) L) (h4 : vp_in (i + 4) L) (nx : ∀ v, JW (c + 1) v → VL L xs 967 [some (.ref 44), some (.ref 0), some (.ref 1), some (.int i)] [] v) : VL L xs 390 [some (.ref 44), some (.ref 0), some (.ref 1), some (.int i)] [] w := by
  refine l_aload_n 391 dL_law_390 rfl rfl ?_
  refine l_cVI0 394 dL_law_391 rfl fvX3_damp fiX3_damp ml_L_56 seX3 rfl ⟨(Nat.le_of_ble_eq_true rfl), (Nat.le_of_ble_eq_true rfl)⟩ (Nat.le_of_ble_eq_true rfl) (Nat.le_of_ble_eq_true rfl) rfl (V.mono (j_damp hJ) (fun a u k => ?_))
  obtain ⟨r, rfl, hv⟩ := k
  refine ⟨r, rfl, ?_⟩
  refine l_aload_n 395 dL_law_394 rfl rfl ?_
  refine l_cVI0 398 dL_law_395 rfl fvX4_damp fiX4_damp ml_L_59 seX4 rfl ⟨(Nat.le_of_ble_eq_true rfl), (Nat.le_of_ble_eq_true rfl)⟩ (Nat.le_of_ble_eq_true rfl) (Nat.le_of_ble_eq_true rfl) rfl (V.mono hv (fun a v k => ?_))
  obtain ⟨rfl, hw⟩ := k
  refine ⟨r, rfl, ?_⟩
  exact l_icmp_eq 967 401 dL_law_398 rfl rfl (fun _ => nx _ hw) (fun h => absurd rfl h)
set_option maxHeartbeats 4000000 in
set_option maxRecDepth 100000 in
theorem law_11 (hJ : JW c w) (hc : c ≤ 1000) (h1 : vp_in (i + 1) L) (h2 : vp_in (i + 2) L) (h3 : vp_in (i + 3) L) (h4 : vp_in (i + 4) L) (nx : ∀ v, JW (c + 1) v → VL L xs 967 [some (.ref 44), some (.ref 0), some (.ref 1), some (.int i)] [] v) : VL L xs 403 [some (.ref 44), some (.ref 0), some (.ref 1), some (.int i)] [] w := by
  refine l_aload_n 404 dL_law_403 rfl rfl ?_
  refine l_cVI0 407 dL_law_404 rfl fvX3_undo fiX3_undo ml_L_60 seX3 rfl ⟨(Nat.le_of_ble_eq_true rfl), (Nat.le_of_ble_eq_true rfl)⟩ (Nat.le_of_ble_eq_true rfl) (Nat.le_of_ble_eq_true rfl) rfl (V.mono (j_undo hJ) (fun a u k => ?_))
  obtain ⟨r, rfl, hv⟩ := k
  refine ⟨r, rfl, ?_⟩
  refine l_aload_n 408 dL_law_407 rfl rfl ?_
  refine l_cVI0 411 dL_law_408 rfl fvX4_undo fiX4_undo ml_L_63 seX4 rfl ⟨(Nat.le_of_ble_eq_true rfl), (Nat.le_of_ble_eq_true rfl)⟩ (Nat.le_of_ble_eq_true rfl) (Nat.le_of_ble_eq_true rfl) rfl (V.mono hv (fun a v k => ?_))
  obtain ⟨rfl, hw⟩ := k
  refine ⟨r, rfl, ?_⟩
  exact l_icmp_eq 967 414 dL_law_411 rfl rfl (fun _ => nx _ hw) (fun h => absurd rfl h)
set_option maxHeartbeats 4000000 in
set_option maxRecDepth 100000 in
theorem law_12 (hJ : JW c w) (hc : c ≤ 1000) (h1 : vp_in (i + 1) L) (h2 : vp_in (i + 2) L) (h3 : vp_in (i + 3) L) (h4 : vp_in (i + 4) L) (nx : ∀ v, JW (c + 1) v → VL L xs 967 [some (.ref 44), some (.ref 0), some (.ref 1), some (.int i)] [] v) : VL L xs 416 [some (.ref 44), some (.ref 0), some (.ref 1), some (.int i)] [] w := by
  refine l_aload_n 417 dL_law_416 rfl rfl ?_
  refine l_arg 422 dL_law_417 dL_law_418 dL_law_419 dL_law_420 dL_law_421 rfl ki_1 h1 ?_
  refine l_cVI1 425 dL_law_422 rfl fvX3_lives fiX3_lives ml_L_64 seX3 rfl ⟨(Nat.le_of_ble_eq_true rfl), (Nat.le_of_ble_eq_true rfl)⟩ (Nat.le_of_ble_eq_true rfl) (Nat.le_of_ble_eq_true rfl) rfl (V.mono (j_lives hJ) (fun a u k => ?_))
  obtain ⟨r, rfl, hv⟩ := k
  refine ⟨r, rfl, ?_⟩
  refine l_aload_n 426 dL_law_425 rfl rfl ?_
  refine l_arg 431 dL_law_426 dL_law_427 dL_law_428 dL_law_429 dL_law_430 rfl ki_1 h1 ?_
  refine l_cVI1 434 dL_law_431 rfl fvX4_lives fiX4_lives ml_L_67 seX4 rfl ⟨(Nat.le_of_ble_eq_true rfl), (Nat.le_of_ble_eq_true rfl)⟩ (Nat.le_of_ble_eq_true rfl) (Nat.le_of_ble_eq_true rfl) rfl (V.mono hv (fun a v k => ?_))
  obtain ⟨rfl, hw⟩ := k
  refine ⟨r, rfl, ?_⟩
  exact l_icmp_eq 967 437 dL_law_434 rfl rfl (fun _ => nx _ hw) (fun h => absurd rfl h)
set_option maxHeartbeats 4000000 in
set_option maxRecDepth 100000 in
theorem law_13 (hJ : JW c w) (hc : c ≤ 1000) (h1 : vp_in (i + 1) L) (h2 : vp_in (i + 2) L) (h3 : vp_in (i + 3) L) (h4 : vp_in (i + 4) L) (nx : ∀ v, JW (c + 1) v → VL L xs 967 [some (.ref 44), some (.ref 0), some (.ref 1), some (.int i)] [] v) : VL L xs 439 [some (.ref 44), some (.ref 0), some (.ref 1), some (.int i)] [] w := by
  refine l_aload_n 440 dL_law_439 rfl rfl ?_
  refine l_arg 445 dL_law_440 dL_law_441 dL_law_442 dL_law_443 dL_law_444 rfl ki_1 h1 ?_
  refine l_arg 450 dL_law_445 dL_law_446 dL_law_447 dL_law_448 dL_law_449 rfl ki_2 h2 ?_
  refine l_cVI2 453 dL_law_450 rfl fvX3_comes fiX3_comes ml_L_68 seX3 rfl ⟨(Nat.le_of_ble_eq_true rfl), (Nat.le_of_ble_eq_true rfl)⟩ (Nat.le_of_ble_eq_true rfl) (Nat.le_of_ble_eq_true rfl) rfl (V.mono (j_comes hJ) (fun a u k => ?_))
  obtain ⟨r, rfl, hv⟩ := k
  refine ⟨r, rfl, ?_⟩
  refine l_aload_n 454 dL_law_453 rfl rfl ?_
  refine l_arg 459 dL_law_454 dL_law_455 dL_law_456 dL_law_457 dL_law_458 rfl ki_1 h1 ?_
  refine l_arg 464 dL_law_459 dL_law_460 dL_law_461 dL_law_462 dL_law_463 rfl ki_2 h2 ?_
  refine l_cVI2 467 dL_law_464 rfl fvX4_comes fiX4_comes ml_L_71 seX4 rfl ⟨(Nat.le_of_ble_eq_true rfl), (Nat.le_of_ble_eq_true rfl)⟩ (Nat.le_of_ble_eq_true rfl) (Nat.le_of_ble_eq_true rfl) rfl (V.mono hv (fun a v k => ?_))
  obtain ⟨rfl, hw⟩ := k
  refine ⟨r, rfl, ?_⟩
  exact l_icmp_eq 967 470 dL_law_467 rfl rfl (fun _ => nx _ hw) (fun h => absurd rfl h)
set_option maxHeartbeats 4000000 in
set_option maxRecDepth 100000 in
theorem law_14 (hJ : JW c w) (hc : c ≤ 1000) (h1 : vp_in (i + 1) L) (h2 : vp_in (i + 2) L) (h3 : vp_in (i + 3) L) (h4 : vp_in (i + 4) L) (nx : ∀ v, JW (c + 1) v → VL L xs 967 [some (.ref 44), some (.ref 0), some (.ref 1), some (.int i)] [] v) : VL L xs 472 [some (.ref 44), some (.ref 0), some (.ref 1), some (.int i)] [] w := by
  refine l_aload_n 473 dL_law_472 rfl rfl ?_
  refine l_arg 478 dL_law_473 dL_law_474 dL_law_475 dL_law_476 dL_law_477 rfl ki_1 h1 ?_
  refine l_cVI1 481 dL_law_478 rfl fvX3_fewest fiX3_fewest ml_L_72 seX3 rfl ⟨(Nat.le_of_ble_eq_true rfl), (Nat.le_of_ble_eq_true rfl)⟩ (Nat.le_of_ble_eq_true rfl) (Nat.le_of_ble_eq_true rfl) rfl (V.mono (j_fewest hJ) (fun a u k => ?_))
  obtain ⟨r, rfl, hv⟩ := k
  refine ⟨r, rfl, ?_⟩
  refine l_aload_n 482 dL_law_481 rfl rfl ?_
  refine l_arg 487 dL_law_482 dL_law_483 dL_law_484 dL_law_485 dL_law_486 rfl ki_1 h1 ?_
  refine l_cVI1 490 dL_law_487 rfl fvX4_fewest fiX4_fewest ml_L_75 seX4 rfl ⟨(Nat.le_of_ble_eq_true rfl), (Nat.le_of_ble_eq_true rfl)⟩ (Nat.le_of_ble_eq_true rfl) (Nat.le_of_ble_eq_true rfl) rfl (V.mono hv (fun a v k => ?_))
  obtain ⟨rfl, hw⟩ := k
  refine ⟨r, rfl, ?_⟩
  exact l_icmp_eq 967 493 dL_law_490 rfl rfl (fun _ => nx _ hw) (fun h => absurd rfl h)
set_option maxHeartbeats 4000000 in
set_option maxRecDepth 100000 in
theorem law_15 (hJ : JW c w) (hc : c ≤ 1000) (h1 : vp_in (i + 1) L) (h2 : vp_in (i + 2) L) (h3 : vp_in (i + 3) L) (h4 : vp_in (i + 4) L) (nx : ∀ v, JW (c + 1) v → VL L xs 967 [some (.ref 44), some (.ref 0), some (.ref 1), some (.int i)] [] v) : VL L xs 495 [some (.ref 44), some (.ref 0), some (.ref 1), some (.int i)] [] w := by
  refine l_aload_n 496 dL_law_495 rfl rfl ?_
  refine l_arg 501 dL_law_496 dL_law_497 dL_law_498 dL_law_499 dL_law_500 rfl ki_1 h1 ?_
  refine l_cVI1 504 dL_law_501 rfl fvX3_block fiX3_block ml_L_76 seX3 rfl ⟨(Nat.le_of_ble_eq_true rfl), (Nat.le_of_ble_eq_true rfl)⟩ (Nat.le_of_ble_eq_true rfl) (Nat.le_of_ble_eq_true rfl) rfl (V.mono (j_block hJ) (fun a u k => ?_))
  obtain ⟨r, rfl, hv⟩ := k
  refine ⟨r, rfl, ?_⟩
  refine l_aload_n 505 dL_law_504 rfl rfl ?_
  refine l_arg 510 dL_law_505 dL_law_506 dL_law_507 dL_law_508 dL_law_509 rfl ki_1 h1 ?_
  refine l_cVI1 513 dL_law_510 rfl fvX4_block fiX4_block ml_L_79 seX4 rfl ⟨(Nat.le_of_ble_eq_true rfl), (Nat.le_of_ble_eq_true rfl)⟩ (Nat.le_of_ble_eq_true rfl) (Nat.le_of_ble_eq_true rfl) rfl (V.mono hv (fun a v k => ?_))
  obtain ⟨rfl, hw⟩ := k
  refine ⟨r, rfl, ?_⟩
  exact l_icmp_eq 967 516 dL_law_513 rfl rfl (fun _ => nx _ hw) (fun h => absurd rfl h)
set_option maxHeartbeats 4000000 in
set_option maxRecDepth 100000 in
theorem law_16 (hJ : JW c w) (hc : c ≤ 1000) (h1 : vp_in (i + 1) L) (h2 : vp_in (i + 2) L) (h3 : vp_in (i + 3) L) (h4 : vp_in (i + 4) L) (nx : ∀ v, JW (c + 1) v → VL L xs 967 [some (.ref 44), some (.ref 0), some (.ref 1), some (.int i)] [] v) : VL L xs 518 [some (.ref 44), some (.ref 0), some (.ref 1), some (.int i)] [] w := by
  refine l_aload_n 519 dL_law_518 rfl rfl ?_
  refine l_arg 524 dL_law_519 dL_law_520 dL_law_521 dL_law_522 dL_law_523 rfl ki_1 h1 ?_
  refine l_arg 529 dL_law_524 dL_law_525 dL_law_526 dL_law_527 dL_law_528 rfl ki_2 h2 ?_
  refine l_i2l 530 dL_law_529 rfl ?_
  refine l_bipush (v := 32) 532 dL_law_530 rfl (by decide) ?_
  refine l_lshl 533 dL_law_532 rfl ?_
  refine l_arg 538 dL_law_533 dL_law_534 dL_law_535 dL_law_536 dL_law_537 rfl ki_3 h3 ?_
  refine l_i2l 539 dL_law_538 rfl ?_
  refine l_ldc2 542 dL_law_539 rfl kl_L_80 ?_
  refine l_land 543 dL_law_542 rfl ?_
  refine l_lor 544 dL_law_543 rfl ?_
  refine l_cVI2 547 dL_law_544 rfl fvX3_judge fiX3_judge ml_L_82 seX3 rfl ⟨(Nat.le_of_ble_eq_true rfl), (Nat.le_of_ble_eq_true rfl)⟩ (Nat.le_of_ble_eq_true rfl) (Nat.le_of_ble_eq_true rfl) rfl (V.mono (j_judge hJ) (fun a u k => ?_))
  obtain ⟨r, rfl, hv⟩ := k
  refine ⟨r, rfl, ?_⟩
  refine l_aload_n 548 dL_law_547 rfl rfl ?_
  refine l_arg 553 dL_law_548 dL_law_549 dL_law_550 dL_law_551 dL_law_552 rfl ki_1 h1 ?_
  refine l_arg 558 dL_law_553 dL_law_554 dL_law_555 dL_law_556 dL_law_557 rfl ki_2 h2 ?_
  refine l_i2l 559 dL_law_558 rfl ?_
  refine l_bipush (v := 32) 561 dL_law_559 rfl (by decide) ?_
  refine l_lshl 562 dL_law_561 rfl ?_
  refine l_arg 567 dL_law_562 dL_law_563 dL_law_564 dL_law_565 dL_law_566 rfl ki_3 h3 ?_
  refine l_i2l 568 dL_law_567 rfl ?_
  refine l_ldc2 571 dL_law_568 rfl kl_L_80 ?_
  refine l_land 572 dL_law_571 rfl ?_
  refine l_lor 573 dL_law_572 rfl ?_
  refine l_cVI2 576 dL_law_573 rfl fvX4_judge fiX4_judge ml_L_86 seX4 rfl ⟨(Nat.le_of_ble_eq_true rfl), (Nat.le_of_ble_eq_true rfl)⟩ (Nat.le_of_ble_eq_true rfl) (Nat.le_of_ble_eq_true rfl) rfl (V.mono hv (fun a v k => ?_))
  obtain ⟨rfl, hw⟩ := k
  refine ⟨r, rfl, ?_⟩
  exact l_icmp_eq 967 579 dL_law_576 rfl rfl (fun _ => nx _ hw) (fun h => absurd rfl h)
set_option maxHeartbeats 4000000 in
set_option maxRecDepth 100000 in
theorem law_17 (hJ : JW c w) (hc : c ≤ 1000) (h1 : vp_in (i + 1) L) (h2 : vp_in (i + 2) L) (h3 : vp_in (i + 3) L) (h4 : vp_in (i + 4) L) (nx : ∀ v, JW (c + 1) v → VL L xs 967 [some (.ref 44), some (.ref 0), some (.ref 1), some (.int i)] [] v) : VL L xs 581 [some (.ref 44), some (.ref 0), some (.ref 1), some (.int i)] [] w := by
  refine l_aload_n 582 dL_law_581 rfl rfl ?_
  refine l_arg 587 dL_law_582 dL_law_583 dL_law_584 dL_law_585 dL_law_586 rfl ki_1 h1 ?_
  refine l_arg 592 dL_law_587 dL_law_588 dL_law_589 dL_law_590 dL_law_591 rfl ki_2 h2 ?_
  refine l_arg 597 dL_law_592 dL_law_593 dL_law_594 dL_law_595 dL_law_596 rfl ki_3 h3 ?_
  refine l_cVI3 600 dL_law_597 rfl fvX3_see fiX3_see ml_L_87 seX3 rfl ⟨(Nat.le_of_ble_eq_true rfl), (Nat.le_of_ble_eq_true rfl)⟩ (Nat.le_of_ble_eq_true rfl) (Nat.le_of_ble_eq_true rfl) rfl (V.mono (j_see hJ) (fun a u k => ?_))
  obtain ⟨r, rfl, hv⟩ := k
  refine ⟨r, rfl, ?_⟩
  refine l_aload_n 601 dL_law_600 rfl rfl ?_
  refine l_arg 606 dL_law_601 dL_law_602 dL_law_603 dL_law_604 dL_law_605 rfl ki_1 h1 ?_
  refine l_arg 611 dL_law_606 dL_law_607 dL_law_608 dL_law_609 dL_law_610 rfl ki_2 h2 ?_
  refine l_arg 616 dL_law_611 dL_law_612 dL_law_613 dL_law_614 dL_law_615 rfl ki_3 h3 ?_
  refine l_cVI3 619 dL_law_616 rfl fvX4_see fiX4_see ml_L_91 seX4 rfl ⟨(Nat.le_of_ble_eq_true rfl), (Nat.le_of_ble_eq_true rfl)⟩ (Nat.le_of_ble_eq_true rfl) (Nat.le_of_ble_eq_true rfl) rfl (V.mono hv (fun a v k => ?_))
  obtain ⟨rfl, hw⟩ := k
  refine ⟨r, rfl, ?_⟩
  exact l_icmp_eq 967 622 dL_law_619 rfl rfl (fun _ => nx _ hw) (fun h => absurd rfl h)
set_option maxHeartbeats 4000000 in
set_option maxRecDepth 100000 in
theorem law_18 (hJ : JW c w) (hc : c ≤ 1000) (h1 : vp_in (i + 1) L) (h2 : vp_in (i + 2) L) (h3 : vp_in (i + 3) L) (h4 : vp_in (i + 4) L) (nx : ∀ v, JW (c + 1) v → VL L xs 967 [some (.ref 44), some (.ref 0), some (.ref 1), some (.int i)] [] v) : VL L xs 624 [some (.ref 44), some (.ref 0), some (.ref 1), some (.int i)] [] w := by
  refine l_aload_n 625 dL_law_624 rfl rfl ?_
  refine l_cVI0 628 dL_law_625 rfl fvX3_unsee fiX3_unsee ml_L_92 seX3 rfl ⟨(Nat.le_of_ble_eq_true rfl), (Nat.le_of_ble_eq_true rfl)⟩ (Nat.le_of_ble_eq_true rfl) (Nat.le_of_ble_eq_true rfl) rfl (V.mono (j_unsee hJ) (fun a u k => ?_))
  obtain ⟨r, rfl, hv⟩ := k
  refine ⟨r, rfl, ?_⟩
  refine l_aload_n 629 dL_law_628 rfl rfl ?_
  refine l_cVI0 632 dL_law_629 rfl fvX4_unsee fiX4_unsee ml_L_95 seX4 rfl ⟨(Nat.le_of_ble_eq_true rfl), (Nat.le_of_ble_eq_true rfl)⟩ (Nat.le_of_ble_eq_true rfl) (Nat.le_of_ble_eq_true rfl) rfl (V.mono hv (fun a v k => ?_))
  obtain ⟨rfl, hw⟩ := k
  refine ⟨r, rfl, ?_⟩
  exact l_icmp_eq 967 635 dL_law_632 rfl rfl (fun _ => nx _ hw) (fun h => absurd rfl h)
set_option maxHeartbeats 4000000 in
set_option maxRecDepth 100000 in
theorem law_19 (hJ : JW c w) (hc : c ≤ 1000) (h1 : vp_in (i + 1) L) (h2 : vp_in (i + 2) L) (h3 : vp_in (i + 3) L) (h4 : vp_in (i + 4) L) (nx : ∀ v, JW (c + 1) v → VL L xs 967 [some (.ref 44), some (.ref 0), some (.ref 1), some (.int i)] [] v) : VL L xs 637 [some (.ref 44), some (.ref 0), some (.ref 1), some (.int i)] [] w := by
  refine l_aload_n 638 dL_law_637 rfl rfl ?_
  refine l_arg 643 dL_law_638 dL_law_639 dL_law_640 dL_law_641 dL_law_642 rfl ki_1 h1 ?_
  refine l_cVI1 646 dL_law_643 rfl fvX3_bought fiX3_bought ml_L_96 seX3 rfl ⟨(Nat.le_of_ble_eq_true rfl), (Nat.le_of_ble_eq_true rfl)⟩ (Nat.le_of_ble_eq_true rfl) (Nat.le_of_ble_eq_true rfl) rfl (V.mono (j_bought hJ) (fun a u k => ?_))
  obtain ⟨r, rfl, hv⟩ := k
  refine ⟨r, rfl, ?_⟩
  refine l_aload_n 647 dL_law_646 rfl rfl ?_
  refine l_arg 652 dL_law_647 dL_law_648 dL_law_649 dL_law_650 dL_law_651 rfl ki_1 h1 ?_
  refine l_cVI1 655 dL_law_652 rfl fvX4_bought fiX4_bought ml_L_99 seX4 rfl ⟨(Nat.le_of_ble_eq_true rfl), (Nat.le_of_ble_eq_true rfl)⟩ (Nat.le_of_ble_eq_true rfl) (Nat.le_of_ble_eq_true rfl) rfl (V.mono hv (fun a v k => ?_))
  obtain ⟨rfl, hw⟩ := k
  refine ⟨r, rfl, ?_⟩
  exact l_icmp_eq 967 658 dL_law_655 rfl rfl (fun _ => nx _ hw) (fun h => absurd rfl h)
set_option maxHeartbeats 4000000 in
set_option maxRecDepth 100000 in
theorem law_20 (hJ : JW c w) (hc : c ≤ 1000) (h1 : vp_in (i + 1) L) (h2 : vp_in (i + 2) L) (h3 : vp_in (i + 3) L) (h4 : vp_in (i + 4) L) (nx : ∀ v, JW (c + 1) v → VL L xs 967 [some (.ref 44), some (.ref 0), some (.ref 1), some (.int i)] [] v) : VL L xs 660 [some (.ref 44), some (.ref 0), some (.ref 1), some (.int i)] [] w := by
  refine l_aload_n 661 dL_law_660 rfl rfl ?_
  refine l_arg 666 dL_law_661 dL_law_662 dL_law_663 dL_law_664 dL_law_665 rfl ki_1 h1 ?_
  refine l_arg 671 dL_law_666 dL_law_667 dL_law_668 dL_law_669 dL_law_670 rfl ki_2 h2 ?_
  refine l_if_eq 678 674 dL_law_671 rfl rfl (fun hb => ?_) (fun hb => ?_)
  · skip
    refine l_iconst (v := 0) 679 dL_law_678 rfl ki_0 ?_
    refine l_cVI2 682 dL_law_679 rfl fvX3_share fiX3_share ml_L_100 seX3 rfl ⟨(Nat.le_of_ble_eq_true rfl), (Nat.le_of_ble_eq_true rfl)⟩ (Nat.le_of_ble_eq_true rfl) (Nat.le_of_ble_eq_true rfl) rfl (V.mono (j_share hJ hc) (fun a u k => ?_))
    obtain ⟨r, rfl, hv⟩ := k
    refine ⟨r, rfl, ?_⟩
    refine l_aload_n 683 dL_law_682 rfl rfl ?_
    refine l_arg 688 dL_law_683 dL_law_684 dL_law_685 dL_law_686 dL_law_687 rfl ki_1 h1 ?_
    refine l_arg 693 dL_law_688 dL_law_689 dL_law_690 dL_law_691 dL_law_692 rfl ki_2 h2 ?_
    refine l_if_eq 700 696 dL_law_693 rfl rfl (fun _ => ?_) (fun h => absurd hb h)
    refine l_iconst (v := 0) 701 dL_law_700 rfl ki_0 ?_
    refine l_cVI2 704 dL_law_701 rfl fvX4_share fiX4_share ml_L_104 seX4 rfl ⟨(Nat.le_of_ble_eq_true rfl), (Nat.le_of_ble_eq_true rfl)⟩ (Nat.le_of_ble_eq_true rfl) (Nat.le_of_ble_eq_true rfl) rfl (V.mono hv (fun a v k => ?_))
    obtain ⟨rfl, hw⟩ := k
    refine ⟨r, rfl, ?_⟩
    exact l_icmp_eq 967 707 dL_law_704 rfl rfl (fun _ => nx _ hw) (fun h => absurd rfl h)
  · skip
    refine l_iconst (v := 1) 675 dL_law_674 rfl ki_1 ?_
    refine l_goto 679 dL_law_675 rfl ?_
    refine l_cVI2 682 dL_law_679 rfl fvX3_share fiX3_share ml_L_100 seX3 rfl ⟨(Nat.le_of_ble_eq_true rfl), (Nat.le_of_ble_eq_true rfl)⟩ (Nat.le_of_ble_eq_true rfl) (Nat.le_of_ble_eq_true rfl) rfl (V.mono (j_share hJ hc) (fun a u k => ?_))
    obtain ⟨r, rfl, hv⟩ := k
    refine ⟨r, rfl, ?_⟩
    refine l_aload_n 683 dL_law_682 rfl rfl ?_
    refine l_arg 688 dL_law_683 dL_law_684 dL_law_685 dL_law_686 dL_law_687 rfl ki_1 h1 ?_
    refine l_arg 693 dL_law_688 dL_law_689 dL_law_690 dL_law_691 dL_law_692 rfl ki_2 h2 ?_
    refine l_if_eq 700 696 dL_law_693 rfl rfl (fun h => absurd h hb) (fun _ => ?_)
    refine l_iconst (v := 1) 697 dL_law_696 rfl ki_1 ?_
    refine l_goto 701 dL_law_697 rfl ?_
    refine l_cVI2 704 dL_law_701 rfl fvX4_share fiX4_share ml_L_104 seX4 rfl ⟨(Nat.le_of_ble_eq_true rfl), (Nat.le_of_ble_eq_true rfl)⟩ (Nat.le_of_ble_eq_true rfl) (Nat.le_of_ble_eq_true rfl) rfl (V.mono hv (fun a v k => ?_))
    obtain ⟨rfl, hw⟩ := k
    refine ⟨r, rfl, ?_⟩
    exact l_icmp_eq 967 707 dL_law_704 rfl rfl (fun _ => nx _ hw) (fun h => absurd rfl h)
set_option maxHeartbeats 4000000 in
set_option maxRecDepth 100000 in
theorem law_21 (hJ : JW c w) (hc : c ≤ 1000) (h1 : vp_in (i + 1) L) (h2 : vp_in (i + 2) L) (h3 : vp_in (i + 3) L) (h4 : vp_in (i + 4) L) (nx : ∀ v, JW (c + 1) v → VL L xs 967 [some (.ref 44), some (.ref 0), some (.ref 1), some (.int i)] [] v) : VL L xs 709 [some (.ref 44), some (.ref 0), some (.ref 1), some (.int i)] [] w := by
  refine l_aload_n 710 dL_law_709 rfl rfl ?_
  refine l_arg 715 dL_law_710 dL_law_711 dL_law_712 dL_law_713 dL_law_714 rfl ki_1 h1 ?_
  refine l_arg 720 dL_law_715 dL_law_716 dL_law_717 dL_law_718 dL_law_719 rfl ki_2 h2 ?_
  refine l_arg 725 dL_law_720 dL_law_721 dL_law_722 dL_law_723 dL_law_724 rfl ki_3 h3 ?_
  refine l_arg 730 dL_law_725 dL_law_726 dL_law_727 dL_law_728 dL_law_729 rfl ki_4 h4 ?_
  refine l_cVI4 733 dL_law_730 rfl fvX3_rests fiX3_rests ml_L_105 seX3 rfl ⟨(Nat.le_of_ble_eq_true rfl), (Nat.le_of_ble_eq_true rfl)⟩ (Nat.le_of_ble_eq_true rfl) (Nat.le_of_ble_eq_true rfl) rfl (V.mono (j_rests hJ) (fun a u k => ?_))
  obtain ⟨r, rfl, hv⟩ := k
  refine ⟨r, rfl, ?_⟩
  refine l_aload_n 734 dL_law_733 rfl rfl ?_
  refine l_arg 739 dL_law_734 dL_law_735 dL_law_736 dL_law_737 dL_law_738 rfl ki_1 h1 ?_
  refine l_arg 744 dL_law_739 dL_law_740 dL_law_741 dL_law_742 dL_law_743 rfl ki_2 h2 ?_
  refine l_arg 749 dL_law_744 dL_law_745 dL_law_746 dL_law_747 dL_law_748 rfl ki_3 h3 ?_
  refine l_arg 754 dL_law_749 dL_law_750 dL_law_751 dL_law_752 dL_law_753 rfl ki_4 h4 ?_
  refine l_cVI4 757 dL_law_754 rfl fvX4_rests fiX4_rests ml_L_109 seX4 rfl ⟨(Nat.le_of_ble_eq_true rfl), (Nat.le_of_ble_eq_true rfl)⟩ (Nat.le_of_ble_eq_true rfl) (Nat.le_of_ble_eq_true rfl) rfl (V.mono hv (fun a v k => ?_))
  obtain ⟨rfl, hw⟩ := k
  refine ⟨r, rfl, ?_⟩
  exact l_icmp_eq 967 760 dL_law_757 rfl rfl (fun _ => nx _ hw) (fun h => absurd rfl h)
set_option maxHeartbeats 4000000 in
set_option maxRecDepth 100000 in
theorem law_22 (hJ : JW c w) (hc : c ≤ 1000) (h1 : vp_in (i + 1) L) (h2 : vp_in (i + 2) L) (h3 : vp_in (i + 3) L) (h4 : vp_in (i + 4) L) (nx : ∀ v, JW (c + 1) v → VL L xs 967 [some (.ref 44), some (.ref 0), some (.ref 1), some (.int i)] [] v) : VL L xs 762 [some (.ref 44), some (.ref 0), some (.ref 1), some (.int i)] [] w := by
  refine l_aload_n 763 dL_law_762 rfl rfl ?_
  refine l_arg 768 dL_law_763 dL_law_764 dL_law_765 dL_law_766 dL_law_767 rfl ki_1 h1 ?_
  refine l_arg 773 dL_law_768 dL_law_769 dL_law_770 dL_law_771 dL_law_772 rfl ki_2 h2 ?_
  refine l_arg 778 dL_law_773 dL_law_774 dL_law_775 dL_law_776 dL_law_777 rfl ki_3 h3 ?_
  refine l_if_eq 785 781 dL_law_778 rfl rfl (fun hb => ?_) (fun hb => ?_)
  · skip
    refine l_iconst (v := 0) 786 dL_law_785 rfl ki_0 ?_
    refine l_cVI3 789 dL_law_786 rfl fvX3_born fiX3_born ml_L_110 seX3 rfl ⟨(Nat.le_of_ble_eq_true rfl), (Nat.le_of_ble_eq_true rfl)⟩ (Nat.le_of_ble_eq_true rfl) (Nat.le_of_ble_eq_true rfl) rfl (V.mono (j_born hJ) (fun a u k => ?_))
    obtain ⟨r, rfl, hv⟩ := k
    refine ⟨r, rfl, ?_⟩
    refine l_aload_n 790 dL_law_789 rfl rfl ?_
    refine l_arg 795 dL_law_790 dL_law_791 dL_law_792 dL_law_793 dL_law_794 rfl ki_1 h1 ?_
    refine l_arg 800 dL_law_795 dL_law_796 dL_law_797 dL_law_798 dL_law_799 rfl ki_2 h2 ?_
    refine l_arg 805 dL_law_800 dL_law_801 dL_law_802 dL_law_803 dL_law_804 rfl ki_3 h3 ?_
    refine l_if_eq 812 808 dL_law_805 rfl rfl (fun _ => ?_) (fun h => absurd hb h)
    refine l_iconst (v := 0) 813 dL_law_812 rfl ki_0 ?_
    refine l_cVI3 816 dL_law_813 rfl fvX4_born fiX4_born ml_L_114 seX4 rfl ⟨(Nat.le_of_ble_eq_true rfl), (Nat.le_of_ble_eq_true rfl)⟩ (Nat.le_of_ble_eq_true rfl) (Nat.le_of_ble_eq_true rfl) rfl (V.mono hv (fun a v k => ?_))
    obtain ⟨rfl, hw⟩ := k
    refine ⟨r, rfl, ?_⟩
    exact l_icmp_eq 967 819 dL_law_816 rfl rfl (fun _ => nx _ hw) (fun h => absurd rfl h)
  · skip
    refine l_iconst (v := 1) 782 dL_law_781 rfl ki_1 ?_
    refine l_goto 786 dL_law_782 rfl ?_
    refine l_cVI3 789 dL_law_786 rfl fvX3_born fiX3_born ml_L_110 seX3 rfl ⟨(Nat.le_of_ble_eq_true rfl), (Nat.le_of_ble_eq_true rfl)⟩ (Nat.le_of_ble_eq_true rfl) (Nat.le_of_ble_eq_true rfl) rfl (V.mono (j_born hJ) (fun a u k => ?_))
    obtain ⟨r, rfl, hv⟩ := k
    refine ⟨r, rfl, ?_⟩
    refine l_aload_n 790 dL_law_789 rfl rfl ?_
    refine l_arg 795 dL_law_790 dL_law_791 dL_law_792 dL_law_793 dL_law_794 rfl ki_1 h1 ?_
    refine l_arg 800 dL_law_795 dL_law_796 dL_law_797 dL_law_798 dL_law_799 rfl ki_2 h2 ?_
    refine l_arg 805 dL_law_800 dL_law_801 dL_law_802 dL_law_803 dL_law_804 rfl ki_3 h3 ?_
    refine l_if_eq 812 808 dL_law_805 rfl rfl (fun h => absurd h hb) (fun _ => ?_)
    refine l_iconst (v := 1) 809 dL_law_808 rfl ki_1 ?_
    refine l_goto 813 dL_law_809 rfl ?_
    refine l_cVI3 816 dL_law_813 rfl fvX4_born fiX4_born ml_L_114 seX4 rfl ⟨(Nat.le_of_ble_eq_true rfl), (Nat.le_of_ble_eq_true rfl)⟩ (Nat.le_of_ble_eq_true rfl) (Nat.le_of_ble_eq_true rfl) rfl (V.mono hv (fun a v k => ?_))
    obtain ⟨rfl, hw⟩ := k
    refine ⟨r, rfl, ?_⟩
    exact l_icmp_eq 967 819 dL_law_816 rfl rfl (fun _ => nx _ hw) (fun h => absurd rfl h)
set_option maxHeartbeats 4000000 in
set_option maxRecDepth 100000 in
theorem law_23 (hJ : JW c w) (hc : c ≤ 1000) (h1 : vp_in (i + 1) L) (h2 : vp_in (i + 2) L) (h3 : vp_in (i + 3) L) (h4 : vp_in (i + 4) L) (nx : ∀ v, JW (c + 1) v → VL L xs 967 [some (.ref 44), some (.ref 0), some (.ref 1), some (.int i)] [] v) : VL L xs 821 [some (.ref 44), some (.ref 0), some (.ref 1), some (.int i)] [] w := by
  refine l_aload_n 822 dL_law_821 rfl rfl ?_
  refine l_arg 827 dL_law_822 dL_law_823 dL_law_824 dL_law_825 dL_law_826 rfl ki_1 h1 ?_
  refine l_i2l 828 dL_law_827 rfl ?_
  refine l_bipush (v := 32) 830 dL_law_828 rfl (by decide) ?_
  refine l_lshl 831 dL_law_830 rfl ?_
  refine l_arg 836 dL_law_831 dL_law_832 dL_law_833 dL_law_834 dL_law_835 rfl ki_2 h2 ?_
  refine l_i2l 837 dL_law_836 rfl ?_
  refine l_ldc2 840 dL_law_837 rfl kl_L_80 ?_
  refine l_land 841 dL_law_840 rfl ?_
  refine l_lor 842 dL_law_841 rfl ?_
  refine l_cVL1 845 dL_law_842 rfl fvX3_seed fiX3_seed ml_L_115 seX3 rfl ⟨(Nat.le_of_ble_eq_true rfl), (Nat.le_of_ble_eq_true rfl)⟩ (Nat.le_of_ble_eq_true rfl) (Nat.le_of_ble_eq_true rfl) rfl (V.mono (j_seed hJ) (fun a u k => ?_))
  obtain ⟨r, rfl, hv⟩ := k
  refine ⟨r, rfl, ?_⟩
  refine l_aload_n 846 dL_law_845 rfl rfl ?_
  refine l_arg 851 dL_law_846 dL_law_847 dL_law_848 dL_law_849 dL_law_850 rfl ki_1 h1 ?_
  refine l_i2l 852 dL_law_851 rfl ?_
  refine l_bipush (v := 32) 854 dL_law_852 rfl (by decide) ?_
  refine l_lshl 855 dL_law_854 rfl ?_
  refine l_arg 860 dL_law_855 dL_law_856 dL_law_857 dL_law_858 dL_law_859 rfl ki_2 h2 ?_
  refine l_i2l 861 dL_law_860 rfl ?_
  refine l_ldc2 864 dL_law_861 rfl kl_L_80 ?_
  refine l_land 865 dL_law_864 rfl ?_
  refine l_lor 866 dL_law_865 rfl ?_
  refine l_cVL1 869 dL_law_866 rfl fvX4_seed fiX4_seed ml_L_119 seX4 rfl ⟨(Nat.le_of_ble_eq_true rfl), (Nat.le_of_ble_eq_true rfl)⟩ (Nat.le_of_ble_eq_true rfl) (Nat.le_of_ble_eq_true rfl) rfl (V.mono hv (fun a v k => ?_))
  obtain ⟨rfl, hw⟩ := k
  refine ⟨r, rfl, ?_⟩
  refine l_lcmp 870 dL_law_869 rfl ?_
  exact l_if_eq 967 873 dL_law_870 rfl rfl (fun _ => nx _ hw) (fun h => absurd (lc_self r) h)
set_option maxHeartbeats 4000000 in
set_option maxRecDepth 100000 in
theorem law_24 (hJ : JW c w) (hc : c ≤ 1000) (h1 : vp_in (i + 1) L) (h2 : vp_in (i + 2) L) (h3 : vp_in (i + 3) L) (h4 : vp_in (i + 4) L) (nx : ∀ v, JW (c + 1) v → VL L xs 967 [some (.ref 44), some (.ref 0), some (.ref 1), some (.int i)] [] v) : VL L xs 875 [some (.ref 44), some (.ref 0), some (.ref 1), some (.int i)] [] w := by
  refine l_aload_n 876 dL_law_875 rfl rfl ?_
  refine l_arg 881 dL_law_876 dL_law_877 dL_law_878 dL_law_879 dL_law_880 rfl ki_1 h1 ?_
  refine l_cVI1 884 dL_law_881 rfl fvX3_years fiX3_years ml_L_120 seX3 rfl ⟨(Nat.le_of_ble_eq_true rfl), (Nat.le_of_ble_eq_true rfl)⟩ (Nat.le_of_ble_eq_true rfl) (Nat.le_of_ble_eq_true rfl) rfl (V.mono (j_years hJ) (fun a u k => ?_))
  obtain ⟨r, rfl, hv⟩ := k
  refine ⟨r, rfl, ?_⟩
  refine l_aload_n 885 dL_law_884 rfl rfl ?_
  refine l_arg 890 dL_law_885 dL_law_886 dL_law_887 dL_law_888 dL_law_889 rfl ki_1 h1 ?_
  refine l_cVI1 893 dL_law_890 rfl fvX4_years fiX4_years ml_L_123 seX4 rfl ⟨(Nat.le_of_ble_eq_true rfl), (Nat.le_of_ble_eq_true rfl)⟩ (Nat.le_of_ble_eq_true rfl) (Nat.le_of_ble_eq_true rfl) rfl (V.mono hv (fun a v k => ?_))
  obtain ⟨rfl, hw⟩ := k
  refine ⟨r, rfl, ?_⟩
  exact l_icmp_eq 967 896 dL_law_893 rfl rfl (fun _ => nx _ hw) (fun h => absurd rfl h)
set_option maxHeartbeats 4000000 in
set_option maxRecDepth 100000 in
theorem law_25 (hJ : JW c w) (hc : c ≤ 1000) (h1 : vp_in (i + 1) L) (h2 : vp_in (i + 2) L) (h3 : vp_in (i + 3) L) (h4 : vp_in (i + 4) L) (nx : ∀ v, JW (c + 1) v → VL L xs 967 [some (.ref 44), some (.ref 0), some (.ref 1), some (.int i)] [] v) : VL L xs 898 [some (.ref 44), some (.ref 0), some (.ref 1), some (.int i)] [] w := by
  refine l_aload_n 899 dL_law_898 rfl rfl ?_
  refine l_arg 904 dL_law_899 dL_law_900 dL_law_901 dL_law_902 dL_law_903 rfl ki_1 h1 ?_
  refine l_cVI1 907 dL_law_904 rfl fvX3_keep fiX3_keep ml_L_124 seX3 rfl ⟨(Nat.le_of_ble_eq_true rfl), (Nat.le_of_ble_eq_true rfl)⟩ (Nat.le_of_ble_eq_true rfl) (Nat.le_of_ble_eq_true rfl) rfl (V.mono (j_keep hJ) (fun a u k => ?_))
  obtain ⟨r, rfl, hv⟩ := k
  refine ⟨r, rfl, ?_⟩
  refine l_aload_n 908 dL_law_907 rfl rfl ?_
  refine l_arg 913 dL_law_908 dL_law_909 dL_law_910 dL_law_911 dL_law_912 rfl ki_1 h1 ?_
  refine l_cVI1 916 dL_law_913 rfl fvX4_keep fiX4_keep ml_L_127 seX4 rfl ⟨(Nat.le_of_ble_eq_true rfl), (Nat.le_of_ble_eq_true rfl)⟩ (Nat.le_of_ble_eq_true rfl) (Nat.le_of_ble_eq_true rfl) rfl (V.mono hv (fun a v k => ?_))
  obtain ⟨rfl, hw⟩ := k
  refine ⟨r, rfl, ?_⟩
  exact l_icmp_eq 967 919 dL_law_916 rfl rfl (fun _ => nx _ hw) (fun h => absurd rfl h)
set_option maxHeartbeats 4000000 in
set_option maxRecDepth 100000 in
theorem law_26 (hJ : JW c w) (hc : c ≤ 1000) (h1 : vp_in (i + 1) L) (h2 : vp_in (i + 2) L) (h3 : vp_in (i + 3) L) (h4 : vp_in (i + 4) L) (nx : ∀ v, JW (c + 1) v → VL L xs 967 [some (.ref 44), some (.ref 0), some (.ref 1), some (.int i)] [] v) : VL L xs 921 [some (.ref 44), some (.ref 0), some (.ref 1), some (.int i)] [] w := by
  refine l_aload_n 922 dL_law_921 rfl rfl ?_
  refine l_arg 927 dL_law_922 dL_law_923 dL_law_924 dL_law_925 dL_law_926 rfl ki_1 h1 ?_
  refine l_cVI1 930 dL_law_927 rfl fvX3_again fiX3_again ml_L_128 seX3 rfl ⟨(Nat.le_of_ble_eq_true rfl), (Nat.le_of_ble_eq_true rfl)⟩ (Nat.le_of_ble_eq_true rfl) (Nat.le_of_ble_eq_true rfl) rfl (V.mono (j_again hJ) (fun a u k => ?_))
  obtain ⟨r, rfl, hv⟩ := k
  refine ⟨r, rfl, ?_⟩
  refine l_aload_n 931 dL_law_930 rfl rfl ?_
  refine l_arg 936 dL_law_931 dL_law_932 dL_law_933 dL_law_934 dL_law_935 rfl ki_1 h1 ?_
  refine l_cVI1 939 dL_law_936 rfl fvX4_again fiX4_again ml_L_131 seX4 rfl ⟨(Nat.le_of_ble_eq_true rfl), (Nat.le_of_ble_eq_true rfl)⟩ (Nat.le_of_ble_eq_true rfl) (Nat.le_of_ble_eq_true rfl) rfl (V.mono hv (fun a v k => ?_))
  obtain ⟨rfl, hw⟩ := k
  refine ⟨r, rfl, ?_⟩
  exact l_icmp_eq 967 942 dL_law_939 rfl rfl (fun _ => nx _ hw) (fun h => absurd rfl h)
set_option maxHeartbeats 4000000 in
set_option maxRecDepth 100000 in
theorem law_27 (hJ : JW c w) (hc : c ≤ 1000) (h1 : vp_in (i + 1) L) (h2 : vp_in (i + 2) L) (h3 : vp_in (i + 3) L) (h4 : vp_in (i + 4) L) (nx : ∀ v, JW (c + 1) v → VL L xs 967 [some (.ref 44), some (.ref 0), some (.ref 1), some (.int i)] [] v) : VL L xs 944 [some (.ref 44), some (.ref 0), some (.ref 1), some (.int i)] [] w := by
  refine l_aload_n 945 dL_law_944 rfl rfl ?_
  refine l_arg 950 dL_law_945 dL_law_946 dL_law_947 dL_law_948 dL_law_949 rfl ki_1 h1 ?_
  refine l_cVI1 953 dL_law_950 rfl fvX3_count fiX3_count ml_L_132 seX3 rfl ⟨(Nat.le_of_ble_eq_true rfl), (Nat.le_of_ble_eq_true rfl)⟩ (Nat.le_of_ble_eq_true rfl) (Nat.le_of_ble_eq_true rfl) rfl (V.mono (j_count hJ) (fun a u k => ?_))
  obtain ⟨r, rfl, hv⟩ := k
  refine ⟨r, rfl, ?_⟩
  refine l_aload_n 954 dL_law_953 rfl rfl ?_
  refine l_arg 959 dL_law_954 dL_law_955 dL_law_956 dL_law_957 dL_law_958 rfl ki_1 h1 ?_
  refine l_cVI1 962 dL_law_959 rfl fvX4_count fiX4_count ml_L_135 seX4 rfl ⟨(Nat.le_of_ble_eq_true rfl), (Nat.le_of_ble_eq_true rfl)⟩ (Nat.le_of_ble_eq_true rfl) (Nat.le_of_ble_eq_true rfl) rfl (V.mono hv (fun a v k => ?_))
  obtain ⟨rfl, hw⟩ := k
  refine ⟨r, rfl, ?_⟩
  exact l_icmp_eq 967 965 dL_law_962 rfl rfl (fun _ => nx _ hw) (fun h => absurd rfl h)
end LAW
theorem JW.up {c : Nat} {w : Wd} (h : JW c w) : JW (c + 1) w := by
  obtain ⟨P, T, A, U, K, N, z, hC, hM, hJ⟩ := h
  exact ⟨P, T, A, U, K, N, z, hC, hM, hJ.up⟩
theorem and31 (x : Int32) : ∃ k, k < 32 ∧ x &&& 31 = nI k := by
  obtain ⟨k, hk, e⟩ := and_32 (q := 31) (by decide) x
  exact ⟨k, hk, by rw [Int32.and_comm]; exact e⟩
theorem sub5 {L c : Nat} (hL : L ≤ 320) (hc : c ≤ 70) (h : ¬ Int32.ofNat L - 5 < nI (5 * c)) : 5 * c + 5 ≤ L := by
  rw [i_lt] at h
  have h1 : (nI (5 * c)).toInt = ((5 * c : Nat) : Int) := nI_toInt (by omega)
  have h2 : (Int32.ofNat L - 5).toInt = (L : Int) - 5 := by
    have h3 : (nI L).toInt = (L : Int) := nI_toInt (by omega)
    have h4 : (5 : Int32).toInt = 5 := by decide
    have h5 : (nI L - 5).toInt = ((nI L).toInt - (5 : Int32).toInt).bmod (2 ^ 32) := Int32.toInt_sub _ _
    rw [h3, h4] at h5
    show (nI L - 5).toInt = _
    rw [h5, Int.bmod_def]
    omega
  rw [h1, h2] at h
  omega
set_option maxHeartbeats 4000000 in
set_option maxRecDepth 100000 in
theorem law_loop {L : Nat} {xs : Nat → Int32} (hL : L ≤ 320) : ∀ (n c : Nat) (w : Wd), 66 ≤ c + n → c ≤ 65 → JW c w → VL L xs 18 [some (.ref 44), some (.ref 0), some (.ref 1), some (.int (nI (5 * c)))] [] w := by
  intro n
  induction n with
  | zero => intro c w h1 h2; exact absurd h1 (by omega)
  | succ n ih =>
    intro c w hn hc hJ
    refine l_iload_n 19 dL_law_18 rfl rfl ?_
    refine l_aload_n 20 dL_law_19 rfl rfl ?_
    refine l_slen 21 dL_law_20 rfl ?_
    refine l_iconst (v := 5) 22 dL_law_21 rfl ki_5 ?_
    refine l_isub 23 dL_law_22 rfl ?_
    refine l_icmp_gt 973 26 dL_law_23 rfl rfl (fun _ => l_iconst (v := 1) 974 dL_law_973 rfl ki_1 (l_end dL_law_974)) (fun hq => ?_)
    have hb := sub5 hL (by omega) hq
    have g : ∀ j, j < 5 → vp_in (nI (5 * c + j)) L := fun j hj => vp_in_nI (by omega) (by omega)
    have h1 : vp_in (nI (5 * c) + 1) L := by rw [show nI (5 * c) + 1 = nI (5 * c + 1) from nI_add _ 1]; exact g 1 (by decide)
    have h2 : vp_in (nI (5 * c) + 2) L := by rw [show nI (5 * c) + 2 = nI (5 * c + 2) from nI_add _ 2]; exact g 2 (by decide)
    have h3 : vp_in (nI (5 * c) + 3) L := by rw [show nI (5 * c) + 3 = nI (5 * c + 3) from nI_add _ 3]; exact g 3 (by decide)
    have h4 : vp_in (nI (5 * c) + 4) L := by rw [show nI (5 * c) + 4 = nI (5 * c + 4) from nI_add _ 4]; exact g 4 (by decide)
    have nx : ∀ v, JW (c + 1) v → VL L xs 967 [some (.ref 44), some (.ref 0), some (.ref 1), some (.int (nI (5 * c)))] [] v := fun v hv =>
      l_iinc (v := nI (5 * (c + 1))) 970 dL_law_967 rfl rfl (by rw [show 5 * (c + 1) = 5 * c + 5 from by omega]; exact nI_add _ 5) (by decide) rfl rfl (l_goto 18 dL_law_970 rfl (ih (c + 1) v (by omega) (by omega) hv))
    refine l_aload_n 27 dL_law_26 rfl rfl ?_
    refine l_iload_n 28 dL_law_27 rfl rfl ?_
    refine l_sld 29 dL_law_28 rfl (g 0 (by decide)) ?_
    refine l_bipush (v := 31) 31 dL_law_29 rfl (by decide) ?_
    refine l_iand 32 dL_law_31 rfl ?_
    obtain ⟨k, hk, e⟩ := and31 (xs (nI (5 * c)).toNatClampNeg)
    rw [e]
    have c0 : c ≤ 1000 := by omega
    rcases (show k = 0 ∨ k = 1 ∨ k = 2 ∨ k = 3 ∨ k = 4 ∨ k = 5 ∨ k = 6 ∨ k = 7 ∨ k = 8 ∨ k = 9 ∨ k = 10 ∨ k = 11 ∨ k = 12 ∨ k = 13 ∨ k = 14 ∨ k = 15 ∨ k = 16 ∨ k = 17 ∨ k = 18 ∨ k = 19 ∨ k = 20 ∨ k = 21 ∨ k = 22 ∨ k = 23 ∨ k = 24 ∨ k = 25 ∨ k = 26 ∨ k = 27 ∨ k = 28 ∨ k = 29 ∨ k = 30 ∨ k = 31 by omega) with rfl | rfl | rfl | rfl | rfl | rfl | rfl | rfl | rfl | rfl | rfl | rfl | rfl | rfl | rfl | rfl | rfl | rfl | rfl | rfl | rfl | rfl | rfl | rfl | rfl | rfl | rfl | rfl | rfl | rfl | rfl | rfl
    · exact l_tabIn (off := 128) 160 dL_law_32 (by decide) (by decide) (by decide) rfl (law_0 hJ c0 h1 h2 h3 h4 nx)
    · exact l_tabIn (off := 151) 183 dL_law_32 (by decide) (by decide) (by decide) rfl (law_1 hJ c0 h1 h2 h3 h4 nx)
    · exact l_tabIn (off := 164) 196 dL_law_32 (by decide) (by decide) (by decide) rfl (law_2 hJ c0 h1 h2 h3 h4 nx)
    · exact l_tabIn (off := 177) 209 dL_law_32 (by decide) (by decide) (by decide) rfl (law_3 hJ c0 h1 h2 h3 h4 nx)
    · exact l_tabIn (off := 190) 222 dL_law_32 (by decide) (by decide) (by decide) rfl (law_4 hJ c0 h1 h2 h3 h4 nx)
    · exact l_tabIn (off := 223) 255 dL_law_32 (by decide) (by decide) (by decide) rfl (law_5 hJ c0 h1 h2 h3 h4 nx)
    · exact l_tabIn (off := 256) 288 dL_law_32 (by decide) (by decide) (by decide) rfl (law_6 hJ c0 h1 h2 h3 h4 nx)
    · exact l_tabIn (off := 269) 301 dL_law_32 (by decide) (by decide) (by decide) rfl (law_7 hJ c0 h1 h2 h3 h4 nx)
    · exact l_tabIn (off := 302) 334 dL_law_32 (by decide) (by decide) (by decide) rfl (law_8 hJ c0 h1 h2 h3 h4 nx)
    · exact l_tabIn (off := 325) 357 dL_law_32 (by decide) (by decide) (by decide) rfl (law_9 hJ c0 h1 h2 h3 h4 nx)
    · exact l_tabIn (off := 358) 390 dL_law_32 (by decide) (by decide) (by decide) rfl (law_10 hJ c0 h1 h2 h3 h4 nx)
    · exact l_tabIn (off := 371) 403 dL_law_32 (by decide) (by decide) (by decide) rfl (law_11 hJ c0 h1 h2 h3 h4 nx)
    · exact l_tabIn (off := 384) 416 dL_law_32 (by decide) (by decide) (by decide) rfl (law_12 hJ c0 h1 h2 h3 h4 nx)
    · exact l_tabIn (off := 407) 439 dL_law_32 (by decide) (by decide) (by decide) rfl (law_13 hJ c0 h1 h2 h3 h4 nx)
    · exact l_tabIn (off := 440) 472 dL_law_32 (by decide) (by decide) (by decide) rfl (law_14 hJ c0 h1 h2 h3 h4 nx)
    · exact l_tabIn (off := 463) 495 dL_law_32 (by decide) (by decide) (by decide) rfl (law_15 hJ c0 h1 h2 h3 h4 nx)
    · exact l_tabIn (off := 486) 518 dL_law_32 (by decide) (by decide) (by decide) rfl (law_16 hJ c0 h1 h2 h3 h4 nx)
    · exact l_tabIn (off := 549) 581 dL_law_32 (by decide) (by decide) (by decide) rfl (law_17 hJ c0 h1 h2 h3 h4 nx)
    · exact l_tabIn (off := 592) 624 dL_law_32 (by decide) (by decide) (by decide) rfl (law_18 hJ c0 h1 h2 h3 h4 nx)
    · exact l_tabIn (off := 605) 637 dL_law_32 (by decide) (by decide) (by decide) rfl (law_19 hJ c0 h1 h2 h3 h4 nx)
    · exact l_tabIn (off := 628) 660 dL_law_32 (by decide) (by decide) (by decide) rfl (law_20 hJ c0 h1 h2 h3 h4 nx)
    · exact l_tabIn (off := 677) 709 dL_law_32 (by decide) (by decide) (by decide) rfl (law_21 hJ c0 h1 h2 h3 h4 nx)
    · exact l_tabIn (off := 730) 762 dL_law_32 (by decide) (by decide) (by decide) rfl (law_22 hJ c0 h1 h2 h3 h4 nx)
    · exact l_tabIn (off := 789) 821 dL_law_32 (by decide) (by decide) (by decide) rfl (law_23 hJ c0 h1 h2 h3 h4 nx)
    · exact l_tabIn (off := 843) 875 dL_law_32 (by decide) (by decide) (by decide) rfl (law_24 hJ c0 h1 h2 h3 h4 nx)
    · exact l_tabIn (off := 866) 898 dL_law_32 (by decide) (by decide) (by decide) rfl (law_25 hJ c0 h1 h2 h3 h4 nx)
    · exact l_tabIn (off := 889) 921 dL_law_32 (by decide) (by decide) (by decide) rfl (law_26 hJ c0 h1 h2 h3 h4 nx)
    · exact l_tabIn (off := 912) 944 dL_law_32 (by decide) (by decide) (by decide) rfl (law_27 hJ c0 h1 h2 h3 h4 nx)
    · exact l_tabOut 967 dL_law_32 (Or.inr (by decide)) rfl (nx _ hJ.up)
    · exact l_tabOut 967 dL_law_32 (Or.inr (by decide)) rfl (nx _ hJ.up)
    · exact l_tabOut 967 dL_law_32 (Or.inr (by decide)) rfl (nx _ hJ.up)
    · exact l_tabOut 967 dL_law_32 (Or.inr (by decide)) rfl (nx _ hJ.up)
