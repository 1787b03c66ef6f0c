theorem s_in {i k n : Nat} (h : i + 6 ≤ n) (hn : n ≤ 3072) (hk : k < 6) : vp_in (nI i + nI k) n := by
  rw [nI_add]; exact vp_in_nI (by omega) (by omega)
theorem nI_and31 (m : Nat) : nI m &&& 31 = nI (m % 32) := by
  have := Nat.and_two_pow_sub_one_eq_mod m 5
  rw [show (31 : Int32) = nI 31 from rfl, nx_and]
  congr 1
theorem lg_cmp_self (x : Int64) : lg_cmp x x = 0 := by
  unfold lg_cmp; simp
theorem law_0 {G : gG} {I : gI} {R : gR} {L : gL} {Q : gQ} {i : Nat} (h : Rel I R) (hi : i + 6 ≤ G.2.2.2.2.1) (hb : G.2.2.2.2.1 ≤ 3072) (next : ∀ I' R' L', Rel I' R' → Go G mL_law 40 0 0 1079 [some (.float 0), some (.ref 0), some (.ref 310), some (.int (nI i))] [] SH I' R' L' Q) : Go G mL_law 40 0 0 176 [some (.float 0), some (.ref 0), some (.ref 310), some (.int (nI i))] [] SH I R L Q := by
  refine go_aload_n dL_law_176 rfl ?_
  refine go_aloadX_n (x := 0) dL_law_177 rfl ?_
  refine go_iload_n dL_law_178 rfl ?_
  refine go_iconst (v := 1) dL_law_179 (by decide) ?_
  refine go_iadd dL_law_180 ?_
  refine go_sld dL_law_181 (s_in (k := 1) hi hb (by decide)) ?_
  refine go_aloadX_n (x := 0) dL_law_182 rfl ?_
  refine go_iload_n dL_law_183 rfl ?_
  refine go_iconst (v := 2) dL_law_184 (by decide) ?_
  refine go_iadd dL_law_185 ?_
  refine go_sld dL_law_186 (s_in (k := 2) hi hb (by decide)) ?_
  refine go_aloadX_n (x := 0) dL_law_187 rfl ?_
  refine go_iload_n dL_law_188 rfl ?_
  refine go_iconst (v := 3) dL_law_189 (by decide) ?_
  refine go_iadd dL_law_190 ?_
  refine go_sld dL_law_191 (s_in (k := 3) hi hb (by decide)) ?_
  refine go_callV0 (μ := mL_law) (dd := 30) [.int _, .int _, .int _] dL_law_192 YX6_pot lL_13 rfl ⟨_, rfl, rfl⟩ rfl (Nat.le_of_ble_eq_true rfl) (Nat.le_of_ble_eq_true rfl) rfl (p_pot h (fun v I1 R1 L1 hp => ?_))
  refine go_aload_n dL_law_195 rfl ?_
  refine go_aloadX_n (x := 0) dL_law_196 rfl ?_
  refine go_iload_n dL_law_197 rfl ?_
  refine go_iconst (v := 1) dL_law_198 (by decide) ?_
  refine go_iadd dL_law_199 ?_
  refine go_sld dL_law_200 (s_in (k := 1) hi hb (by decide)) ?_
  refine go_aloadX_n (x := 0) dL_law_201 rfl ?_
  refine go_iload_n dL_law_202 rfl ?_
  refine go_iconst (v := 2) dL_law_203 (by decide) ?_
  refine go_iadd dL_law_204 ?_
  refine go_sld dL_law_205 (s_in (k := 2) hi hb (by decide)) ?_
  refine go_aloadX_n (x := 0) dL_law_206 rfl ?_
  refine go_iload_n dL_law_207 rfl ?_
  refine go_iconst (v := 3) dL_law_208 (by decide) ?_
  refine go_iadd dL_law_209 ?_
  refine go_sld dL_law_210 (s_in (k := 3) hi hb (by decide)) ?_
  refine go_callV0 (μ := mL_law) (dd := 30) [.int _, .int _, .int _] dL_law_211 YX7_pot lL_17 rfl ⟨_, rfl, rfl⟩ rfl (Nat.le_of_ble_eq_true rfl) (Nat.le_of_ble_eq_true rfl) rfl (hp _ (fun I2 R2 L2 h2 => ?_))
  exact go_icmp_eq 1079 dL_law_214 (by decide) (fun _ => next I2 R2 L2 h2) (fun c => absurd rfl c)
theorem law_1 {G : gG} {I : gI} {R : gR} {L : gL} {Q : gQ} {i : Nat} (h : Rel I R) (hi : i + 6 ≤ G.2.2.2.2.1) (hb : G.2.2.2.2.1 ≤ 3072) (next : ∀ I' R' L', Rel I' R' → Go G mL_law 40 0 0 1079 [some (.float 0), some (.ref 0), some (.ref 310), some (.int (nI i))] [] SH I' R' L' Q) : Go G mL_law 40 0 0 219 [some (.float 0), some (.ref 0), some (.ref 310), some (.int (nI i))] [] SH I R L Q := by
  refine go_aload_n dL_law_219 rfl ?_
  refine go_aloadX_n (x := 0) dL_law_220 rfl ?_
  refine go_iload_n dL_law_221 rfl ?_
  refine go_iconst (v := 1) dL_law_222 (by decide) ?_
  refine go_iadd dL_law_223 ?_
  refine go_sld dL_law_224 (s_in (k := 1) hi hb (by decide)) ?_
  refine go_aloadX_n (x := 0) dL_law_225 rfl ?_
  refine go_iload_n dL_law_226 rfl ?_
  refine go_iconst (v := 2) dL_law_227 (by decide) ?_
  refine go_iadd dL_law_228 ?_
  refine go_sld dL_law_229 (s_in (k := 2) hi hb (by decide)) ?_
  refine go_aloadX_n (x := 0) dL_law_230 rfl ?_
  refine go_iload_n dL_law_231 rfl ?_
  refine go_iconst (v := 3) dL_law_232 (by decide) ?_
  refine go_iadd dL_law_233 ?_
  refine go_sld dL_law_234 (s_in (k := 3) hi hb (by decide)) ?_
  refine go_callV0 (μ := mL_law) (dd := 30) [.int _, .int _, .int _] dL_law_235 YX6_eater lL_18 rfl ⟨_, rfl, rfl⟩ rfl (Nat.le_of_ble_eq_true rfl) (Nat.le_of_ble_eq_true rfl) rfl (p_eater h (fun v I1 R1 L1 hp => ?_))
  refine go_aload_n dL_law_238 rfl ?_
  refine go_aloadX_n (x := 0) dL_law_239 rfl ?_
  refine go_iload_n dL_law_240 rfl ?_
  refine go_iconst (v := 1) dL_law_241 (by decide) ?_
  refine go_iadd dL_law_242 ?_
  refine go_sld dL_law_243 (s_in (k := 1) hi hb (by decide)) ?_
  refine go_aloadX_n (x := 0) dL_law_244 rfl ?_
  refine go_iload_n dL_law_245 rfl ?_
  refine go_iconst (v := 2) dL_law_246 (by decide) ?_
  refine go_iadd dL_law_247 ?_
  refine go_sld dL_law_248 (s_in (k := 2) hi hb (by decide)) ?_
  refine go_aloadX_n (x := 0) dL_law_249 rfl ?_
  refine go_iload_n dL_law_250 rfl ?_
  refine go_iconst (v := 3) dL_law_251 (by decide) ?_
  refine go_iadd dL_law_252 ?_
  refine go_sld dL_law_253 (s_in (k := 3) hi hb (by decide)) ?_
  refine go_callV0 (μ := mL_law) (dd := 30) [.int _, .int _, .int _] dL_law_254 YX7_eater lL_22 rfl ⟨_, rfl, rfl⟩ rfl (Nat.le_of_ble_eq_true rfl) (Nat.le_of_ble_eq_true rfl) rfl (hp _ (fun I2 R2 L2 h2 => ?_))
  exact go_icmp_eq 1079 dL_law_257 (by decide) (fun _ => next I2 R2 L2 h2) (fun c => absurd rfl c)
theorem law_2 {G : gG} {I : gI} {R : gR} {L : gL} {Q : gQ} {i : Nat} (h : Rel I R) (hi : i + 6 ≤ G.2.2.2.2.1) (hb : G.2.2.2.2.1 ≤ 3072) (next : ∀ I' R' L', Rel I' R' → Go G mL_law 40 0 0 1079 [some (.float 0), some (.ref 0), some (.ref 310), some (.int (nI i))] [] SH I' R' L' Q) : Go G mL_law 40 0 0 262 [some (.float 0), some (.ref 0), some (.ref 310), some (.int (nI i))] [] SH I R L Q := by
  refine go_aload_n dL_law_262 rfl ?_
  refine go_aloadX_n (x := 0) dL_law_263 rfl ?_
  refine go_iload_n dL_law_264 rfl ?_
  refine go_iconst (v := 1) dL_law_265 (by decide) ?_
  refine go_iadd dL_law_266 ?_
  refine go_sld dL_law_267 (s_in (k := 1) hi hb (by decide)) ?_
  refine go_callV0 (μ := mL_law) (dd := 30) [.int _] dL_law_268 YX6_seed lL_23 rfl ⟨_, rfl, rfl⟩ rfl (Nat.le_of_ble_eq_true rfl) (Nat.le_of_ble_eq_true rfl) rfl (p_seed h (fun v I1 R1 L1 hp => ?_))
  refine go_aload_n dL_law_271 rfl ?_
  refine go_aloadX_n (x := 0) dL_law_272 rfl ?_
  refine go_iload_n dL_law_273 rfl ?_
  refine go_iconst (v := 1) dL_law_274 (by decide) ?_
  refine go_iadd dL_law_275 ?_
  refine go_sld dL_law_276 (s_in (k := 1) hi hb (by decide)) ?_
  refine go_callV0 (μ := mL_law) (dd := 30) [.int _] dL_law_277 YX7_seed lL_27 rfl ⟨_, rfl, rfl⟩ rfl (Nat.le_of_ble_eq_true rfl) (Nat.le_of_ble_eq_true rfl) rfl (hp _ (fun I2 R2 L2 h2 => ?_))
  exact go_icmp_eq 1079 dL_law_280 (by decide) (fun _ => next I2 R2 L2 h2) (fun c => absurd rfl c)
theorem law_3 {G : gG} {I : gI} {R : gR} {L : gL} {Q : gQ} {i : Nat} (h : Rel I R) (hi : i + 6 ≤ G.2.2.2.2.1) (hb : G.2.2.2.2.1 ≤ 3072) (next : ∀ I' R' L', Rel I' R' → Go G mL_law 40 0 0 1079 [some (.float 0), some (.ref 0), some (.ref 310), some (.int (nI i))] [] SH I' R' L' Q) : Go G mL_law 40 0 0 285 [some (.float 0), some (.ref 0), some (.ref 310), some (.int (nI i))] [] SH I R L Q := by
  refine go_aload_n dL_law_285 rfl ?_
  refine go_aloadX_n (x := 0) dL_law_286 rfl ?_
  refine go_iload_n dL_law_287 rfl ?_
  refine go_iconst (v := 1) dL_law_288 (by decide) ?_
  refine go_iadd dL_law_289 ?_
  refine go_sld dL_law_290 (s_in (k := 1) hi hb (by decide)) ?_
  refine go_aloadX_n (x := 0) dL_law_291 rfl ?_
  refine go_iload_n dL_law_292 rfl ?_
  refine go_iconst (v := 2) dL_law_293 (by decide) ?_
  refine go_iadd dL_law_294 ?_
  refine go_sld dL_law_295 (s_in (k := 2) hi hb (by decide)) ?_
  refine go_callV0 (μ := mL_law) (dd := 30) [.int _, .int _] dL_law_296 YX6_sit lL_28 rfl ⟨_, rfl, rfl⟩ rfl (Nat.le_of_ble_eq_true rfl) (Nat.le_of_ble_eq_true rfl) rfl (p_sit h (fun v I1 R1 L1 hp => ?_))
  refine go_aload_n dL_law_299 rfl ?_
  refine go_aloadX_n (x := 0) dL_law_300 rfl ?_
  refine go_iload_n dL_law_301 rfl ?_
  refine go_iconst (v := 1) dL_law_302 (by decide) ?_
  refine go_iadd dL_law_303 ?_
  refine go_sld dL_law_304 (s_in (k := 1) hi hb (by decide)) ?_
  refine go_aloadX_n (x := 0) dL_law_305 rfl ?_
  refine go_iload_n dL_law_306 rfl ?_
  refine go_iconst (v := 2) dL_law_307 (by decide) ?_
  refine go_iadd dL_law_308 ?_
  refine go_sld dL_law_309 (s_in (k := 2) hi hb (by decide)) ?_
  refine go_callV0 (μ := mL_law) (dd := 30) [.int _, .int _] dL_law_310 YX7_sit lL_32 rfl ⟨_, rfl, rfl⟩ rfl (Nat.le_of_ble_eq_true rfl) (Nat.le_of_ble_eq_true rfl) rfl (hp _ (fun I2 R2 L2 h2 => ?_))
  exact go_icmp_eq 1079 dL_law_313 (by decide) (fun _ => next I2 R2 L2 h2) (fun c => absurd rfl c)
theorem law_4 {G : gG} {I : gI} {R : gR} {L : gL} {Q : gQ} {i : Nat} (h : Rel I R) (hi : i + 6 ≤ G.2.2.2.2.1) (hb : G.2.2.2.2.1 ≤ 3072) (next : ∀ I' R' L', Rel I' R' → Go G mL_law 40 0 0 1079 [some (.float 0), some (.ref 0), some (.ref 310), some (.int (nI i))] [] SH I' R' L' Q) : Go G mL_law 40 0 0 318 [some (.float 0), some (.ref 0), some (.ref 310), some (.int (nI i))] [] SH I R L Q := by
  refine go_aload_n dL_law_318 rfl ?_
  refine go_aloadX_n (x := 0) dL_law_319 rfl ?_
  refine go_iload_n dL_law_320 rfl ?_
  refine go_iconst (v := 1) dL_law_321 (by decide) ?_
  refine go_iadd dL_law_322 ?_
  refine go_sld dL_law_323 (s_in (k := 1) hi hb (by decide)) ?_
  refine go_aloadX_n (x := 0) dL_law_324 rfl ?_
  refine go_iload_n dL_law_325 rfl ?_
  refine go_iconst (v := 2) dL_law_326 (by decide) ?_
  refine go_iadd dL_law_327 ?_
  refine go_sld dL_law_328 (s_in (k := 2) hi hb (by decide)) ?_
  refine go_callV0 (μ := mL_law) (dd := 30) [.int _, .int _] dL_law_329 YX6_spoon lL_33 rfl ⟨_, rfl, rfl⟩ rfl (Nat.le_of_ble_eq_true rfl) (Nat.le_of_ble_eq_true rfl) rfl (p_spoon h (fun v I1 R1 L1 hp => ?_))
  refine go_aload_n dL_law_332 rfl ?_
  refine go_aloadX_n (x := 0) dL_law_333 rfl ?_
  refine go_iload_n dL_law_334 rfl ?_
  refine go_iconst (v := 1) dL_law_335 (by decide) ?_
  refine go_iadd dL_law_336 ?_
  refine go_sld dL_law_337 (s_in (k := 1) hi hb (by decide)) ?_
  refine go_aloadX_n (x := 0) dL_law_338 rfl ?_
  refine go_iload_n dL_law_339 rfl ?_
  refine go_iconst (v := 2) dL_law_340 (by decide) ?_
  refine go_iadd dL_law_341 ?_
  refine go_sld dL_law_342 (s_in (k := 2) hi hb (by decide)) ?_
  refine go_callV0 (μ := mL_law) (dd := 30) [.int _, .int _] dL_law_343 YX7_spoon lL_37 rfl ⟨_, rfl, rfl⟩ rfl (Nat.le_of_ble_eq_true rfl) (Nat.le_of_ble_eq_true rfl) rfl (hp _ (fun I2 R2 L2 h2 => ?_))
  exact go_icmp_eq 1079 dL_law_346 (by decide) (fun _ => next I2 R2 L2 h2) (fun c => absurd rfl c)
theorem law_5 {G : gG} {I : gI} {R : gR} {L : gL} {Q : gQ} {i : Nat} (h : Rel I R) (hi : i + 6 ≤ G.2.2.2.2.1) (hb : G.2.2.2.2.1 ≤ 3072) (next : ∀ I' R' L', Rel I' R' → Go G mL_law 40 0 0 1079 [some (.float 0), some (.ref 0), some (.ref 310), some (.int (nI i))] [] SH I' R' L' Q) : Go G mL_law 40 0 0 351 [some (.float 0), some (.ref 0), some (.ref 310), some (.int (nI i))] [] SH I R L Q := by
  refine go_aload_n dL_law_351 rfl ?_
  refine go_aloadX_n (x := 0) dL_law_352 rfl ?_
  refine go_iload_n dL_law_353 rfl ?_
  refine go_iconst (v := 1) dL_law_354 (by decide) ?_
  refine go_iadd dL_law_355 ?_
  refine go_sld dL_law_356 (s_in (k := 1) hi hb (by decide)) ?_
  refine go_callV0 (μ := mL_law) (dd := 30) [.int _] dL_law_357 YX6_judge lL_38 rfl ⟨_, rfl, rfl⟩ rfl (Nat.le_of_ble_eq_true rfl) (Nat.le_of_ble_eq_true rfl) rfl (p_judge h (fun v I1 R1 L1 hp => ?_))
  refine go_aload_n dL_law_360 rfl ?_
  refine go_aloadX_n (x := 0) dL_law_361 rfl ?_
  refine go_iload_n dL_law_362 rfl ?_
  refine go_iconst (v := 1) dL_law_363 (by decide) ?_
  refine go_iadd dL_law_364 ?_
  refine go_sld dL_law_365 (s_in (k := 1) hi hb (by decide)) ?_
  refine go_callV0 (μ := mL_law) (dd := 30) [.int _] dL_law_366 YX7_judge lL_42 rfl ⟨_, rfl, rfl⟩ rfl (Nat.le_of_ble_eq_true rfl) (Nat.le_of_ble_eq_true rfl) rfl (hp _ (fun I2 R2 L2 h2 => ?_))
  exact go_icmp_eq 1079 dL_law_369 (by decide) (fun _ => next I2 R2 L2 h2) (fun c => absurd rfl c)
theorem law_6 {G : gG} {I : gI} {R : gR} {L : gL} {Q : gQ} {i : Nat} (h : Rel I R) (hi : i + 6 ≤ G.2.2.2.2.1) (hb : G.2.2.2.2.1 ≤ 3072) (next : ∀ I' R' L', Rel I' R' → Go G mL_law 40 0 0 1079 [some (.float 0), some (.ref 0), some (.ref 310), some (.int (nI i))] [] SH I' R' L' Q) : Go G mL_law 40 0 0 374 [some (.float 0), some (.ref 0), some (.ref 310), some (.int (nI i))] [] SH I R L Q := by
  refine go_aload_n dL_law_374 rfl ?_
  refine go_aloadX_n (x := 0) dL_law_375 rfl ?_
  refine go_iload_n dL_law_376 rfl ?_
  refine go_iconst (v := 1) dL_law_377 (by decide) ?_
  refine go_iadd dL_law_378 ?_
  refine go_sld dL_law_379 (s_in (k := 1) hi hb (by decide)) ?_
  refine go_callV0 (μ := mL_law) (dd := 30) [.int _] dL_law_380 YX6_flies lL_43 rfl ⟨_, rfl, rfl⟩ rfl (Nat.le_of_ble_eq_true rfl) (Nat.le_of_ble_eq_true rfl) rfl (p_flies h (fun v I1 R1 L1 hp => ?_))
  refine go_aload_n dL_law_383 rfl ?_
  refine go_aloadX_n (x := 0) dL_law_384 rfl ?_
  refine go_iload_n dL_law_385 rfl ?_
  refine go_iconst (v := 1) dL_law_386 (by decide) ?_
  refine go_iadd dL_law_387 ?_
  refine go_sld dL_law_388 (s_in (k := 1) hi hb (by decide)) ?_
  refine go_callV0 (μ := mL_law) (dd := 30) [.int _] dL_law_389 YX7_flies lL_46 rfl ⟨_, rfl, rfl⟩ rfl (Nat.le_of_ble_eq_true rfl) (Nat.le_of_ble_eq_true rfl) rfl (hp _ (fun I2 R2 L2 h2 => ?_))
  exact go_icmp_eq 1079 dL_law_392 (by decide) (fun _ => next I2 R2 L2 h2) (fun c => absurd rfl c)
theorem law_7 {G : gG} {I : gI} {R : gR} {L : gL} {Q : gQ} {i : Nat} (h : Rel I R) (hi : i + 6 ≤ G.2.2.2.2.1) (hb : G.2.2.2.2.1 ≤ 3072) (next : ∀ I' R' L', Rel I' R' → Go G mL_law 40 0 0 1079 [some (.float 0), some (.ref 0), some (.ref 310), some (.int (nI i))] [] SH I' R' L' Q) : Go G mL_law 40 0 0 397 [some (.float 0), some (.ref 0), some (.ref 310), some (.int (nI i))] [] SH I R L Q := by
  refine go_aload_n dL_law_397 rfl ?_
  refine go_aloadX_n (x := 0) dL_law_398 rfl ?_
  refine go_iload_n dL_law_399 rfl ?_
  refine go_iconst (v := 1) dL_law_400 (by decide) ?_
  refine go_iadd dL_law_401 ?_
  refine go_sld dL_law_402 (s_in (k := 1) hi hb (by decide)) ?_
  refine go_aloadX_n (x := 0) dL_law_403 rfl ?_
  refine go_iload_n dL_law_404 rfl ?_
  refine go_iconst (v := 2) dL_law_405 (by decide) ?_
  refine go_iadd dL_law_406 ?_
  refine go_sld dL_law_407 (s_in (k := 2) hi hb (by decide)) ?_
  refine go_aloadX_n (x := 0) dL_law_408 rfl ?_
  refine go_iload_n dL_law_409 rfl ?_
  refine go_iconst (v := 3) dL_law_410 (by decide) ?_
  refine go_iadd dL_law_411 ?_
  refine go_sld dL_law_412 (s_in (k := 3) hi hb (by decide)) ?_
  refine go_aloadX_n (x := 0) dL_law_413 rfl ?_
  refine go_iload_n dL_law_414 rfl ?_
  refine go_iconst (v := 4) dL_law_415 (by decide) ?_
  refine go_iadd dL_law_416 ?_
  refine go_sld dL_law_417 (s_in (k := 4) hi hb (by decide)) ?_
  refine go_aloadX_n (x := 0) dL_law_418 rfl ?_
  refine go_iload_n dL_law_419 rfl ?_
  refine go_iconst (v := 5) dL_law_420 (by decide) ?_
  refine go_iadd dL_law_421 ?_
  refine go_sld dL_law_422 (s_in (k := 5) hi hb (by decide)) ?_
  refine go_callV0 (μ := mL_law) (dd := 30) [.int _, .int _, .int _, .int _, .int _] dL_law_423 YX6_feed lL_47 rfl ⟨_, rfl, rfl⟩ rfl (Nat.le_of_ble_eq_true rfl) (Nat.le_of_ble_eq_true rfl) rfl (p_feed h (fun v I1 R1 L1 hp => ?_))
  refine go_aload_n dL_law_426 rfl ?_
  refine go_aloadX_n (x := 0) dL_law_427 rfl ?_
  refine go_iload_n dL_law_428 rfl ?_
  refine go_iconst (v := 1) dL_law_429 (by decide) ?_
  refine go_iadd dL_law_430 ?_
  refine go_sld dL_law_431 (s_in (k := 1) hi hb (by decide)) ?_
  refine go_aloadX_n (x := 0) dL_law_432 rfl ?_
  refine go_iload_n dL_law_433 rfl ?_
  refine go_iconst (v := 2) dL_law_434 (by decide) ?_
  refine go_iadd dL_law_435 ?_
  refine go_sld dL_law_436 (s_in (k := 2) hi hb (by decide)) ?_
  refine go_aloadX_n (x := 0) dL_law_437 rfl ?_
  refine go_iload_n dL_law_438 rfl ?_
  refine go_iconst (v := 3) dL_law_439 (by decide) ?_
  refine go_iadd dL_law_440 ?_
  refine go_sld dL_law_441 (s_in (k := 3) hi hb (by decide)) ?_
  refine go_aloadX_n (x := 0) dL_law_442 rfl ?_
  refine go_iload_n dL_law_443 rfl ?_
  refine go_iconst (v := 4) dL_law_444 (by decide) ?_
  refine go_iadd dL_law_445 ?_
  refine go_sld dL_law_446 (s_in (k := 4) hi hb (by decide)) ?_
  refine go_aloadX_n (x := 0) dL_law_447 rfl ?_
  refine go_iload_n dL_law_448 rfl ?_
  refine go_iconst (v := 5) dL_law_449 (by decide) ?_
  refine go_iadd dL_law_450 ?_
  refine go_sld dL_law_451 (s_in (k := 5) hi hb (by decide)) ?_
  refine go_callV0 (μ := mL_law) (dd := 30) [.int _, .int _, .int _, .int _, .int _] dL_law_452 YX7_feed lL_51 rfl ⟨_, rfl, rfl⟩ rfl (Nat.le_of_ble_eq_true rfl) (Nat.le_of_ble_eq_true rfl) rfl (hp _ (fun I2 R2 L2 h2 => ?_))
  exact go_icmp_eq 1079 dL_law_455 (by decide) (fun _ => next I2 R2 L2 h2) (fun c => absurd rfl c)
theorem law_8 {G : gG} {I : gI} {R : gR} {L : gL} {Q : gQ} {i : Nat} (h : Rel I R) (hi : i + 6 ≤ G.2.2.2.2.1) (hb : G.2.2.2.2.1 ≤ 3072) (next : ∀ I' R' L', Rel I' R' → Go G mL_law 40 0 0 1079 [some (.float 0), some (.ref 0), some (.ref 310), some (.int (nI i))] [] SH I' R' L' Q) : Go G mL_law 40 0 0 460 [some (.float 0), some (.ref 0), some (.ref 310), some (.int (nI i))] [] SH I R L Q := by
  refine go_aload_n dL_law_460 rfl ?_
  refine go_aloadX_n (x := 0) dL_law_461 rfl ?_
  refine go_iload_n dL_law_462 rfl ?_
  refine go_iconst (v := 1) dL_law_463 (by decide) ?_
  refine go_iadd dL_law_464 ?_
  refine go_sld dL_law_465 (s_in (k := 1) hi hb (by decide)) ?_
  refine go_callV0 (μ := mL_law) (dd := 30) [.int _] dL_law_466 YX6_end lL_52 rfl ⟨_, rfl, rfl⟩ rfl (Nat.le_of_ble_eq_true rfl) (Nat.le_of_ble_eq_true rfl) rfl (p_end h (fun v I1 R1 L1 hp => ?_))
  refine go_aload_n dL_law_469 rfl ?_
  refine go_aloadX_n (x := 0) dL_law_470 rfl ?_
  refine go_iload_n dL_law_471 rfl ?_
  refine go_iconst (v := 1) dL_law_472 (by decide) ?_
  refine go_iadd dL_law_473 ?_
  refine go_sld dL_law_474 (s_in (k := 1) hi hb (by decide)) ?_
  refine go_callV0 (μ := mL_law) (dd := 30) [.int _] dL_law_475 YX7_end lL_55 rfl ⟨_, rfl, rfl⟩ rfl (Nat.le_of_ble_eq_true rfl) (Nat.le_of_ble_eq_true rfl) rfl (hp _ (fun I2 R2 L2 h2 => ?_))
  exact go_icmp_eq 1079 dL_law_478 (by decide) (fun _ => next I2 R2 L2 h2) (fun c => absurd rfl c)
theorem law_9 {G : gG} {I : gI} {R : gR} {L : gL} {Q : gQ} {i : Nat} (h : Rel I R) (hi : i + 6 ≤ G.2.2.2.2.1) (hb : G.2.2.2.2.1 ≤ 3072) (next : ∀ I' R' L', Rel I' R' → Go G mL_law 40 0 0 1079 [some (.float 0), some (.ref 0), some (.ref 310), some (.int (nI i))] [] SH I' R' L' Q) : Go G mL_law 40 0 0 483 [some (.float 0), some (.ref 0), some (.ref 310), some (.int (nI i))] [] SH I R L Q := by
  refine go_aload_n dL_law_483 rfl ?_
  refine go_callV0 (μ := mL_law) (dd := 14) [] dL_law_484 YX6_text lL_56 rfl ⟨_, rfl, rfl⟩ rfl (Nat.le_of_ble_eq_true rfl) (Nat.le_of_ble_eq_true rfl) rfl (p_text h (fun v I1 R1 L1 hp => ?_))
  refine go_aload_n dL_law_487 rfl ?_
  refine go_callV0 (μ := mL_law) (dd := 6) [] dL_law_488 YX7_text lL_60 rfl ⟨_, rfl, rfl⟩ rfl (Nat.le_of_ble_eq_true rfl) (Nat.le_of_ble_eq_true rfl) rfl (hp _ (fun I2 R2 L2 h2 => ?_))
  exact go_icmp_eq 1079 dL_law_491 (by decide) (fun _ => next I2 R2 L2 h2) (fun c => absurd rfl c)
theorem law_10 {G : gG} {I : gI} {R : gR} {L : gL} {Q : gQ} {i : Nat} (h : Rel I R) (hi : i + 6 ≤ G.2.2.2.2.1) (hb : G.2.2.2.2.1 ≤ 3072) (next : ∀ I' R' L', Rel I' R' → Go G mL_law 40 0 0 1079 [some (.float 0), some (.ref 0), some (.ref 310), some (.int (nI i))] [] SH I' R' L' Q) : Go G mL_law 40 0 0 496 [some (.float 0), some (.ref 0), some (.ref 310), some (.int (nI i))] [] SH I R L Q := by
  refine go_aload_n dL_law_496 rfl ?_
  refine go_aloadX_n (x := 0) dL_law_497 rfl ?_
  refine go_iload_n dL_law_498 rfl ?_
  refine go_iconst (v := 1) dL_law_499 (by decide) ?_
  refine go_iadd dL_law_500 ?_
  refine go_sld dL_law_501 (s_in (k := 1) hi hb (by decide)) ?_
  refine go_callV0 (μ := mL_law) (dd := 30) [.int _] dL_law_502 YX6_fault lL_61 rfl ⟨_, rfl, rfl⟩ rfl (Nat.le_of_ble_eq_true rfl) (Nat.le_of_ble_eq_true rfl) rfl (p_fault h (fun v I1 R1 L1 hp => ?_))
  refine go_aload_n dL_law_505 rfl ?_
  refine go_aloadX_n (x := 0) dL_law_506 rfl ?_
  refine go_iload_n dL_law_507 rfl ?_
  refine go_iconst (v := 1) dL_law_508 (by decide) ?_
  refine go_iadd dL_law_509 ?_
  refine go_sld dL_law_510 (s_in (k := 1) hi hb (by decide)) ?_
  refine go_callV0 (μ := mL_law) (dd := 30) [.int _] dL_law_511 YX7_fault lL_64 rfl ⟨_, rfl, rfl⟩ rfl (Nat.le_of_ble_eq_true rfl) (Nat.le_of_ble_eq_true rfl) rfl (hp _ (fun I2 R2 L2 h2 => ?_))
  exact go_icmp_eq 1079 dL_law_514 (by decide) (fun _ => next I2 R2 L2 h2) (fun c => absurd rfl c)
theorem law_11 {G : gG} {I : gI} {R : gR} {L : gL} {Q : gQ} {i : Nat} (h : Rel I R) (hi : i + 6 ≤ G.2.2.2.2.1) (hb : G.2.2.2.2.1 ≤ 3072) (next : ∀ I' R' L', Rel I' R' → Go G mL_law 40 0 0 1079 [some (.float 0), some (.ref 0), some (.ref 310), some (.int (nI i))] [] SH I' R' L' Q) : Go G mL_law 40 0 0 519 [some (.float 0), some (.ref 0), some (.ref 310), some (.int (nI i))] [] SH I R L Q := by
  refine go_aload_n dL_law_519 rfl ?_
  refine go_aloadX_n (x := 0) dL_law_520 rfl ?_
  refine go_iload_n dL_law_521 rfl ?_
  refine go_iconst (v := 1) dL_law_522 (by decide) ?_
  refine go_iadd dL_law_523 ?_
  refine go_sld dL_law_524 (s_in (k := 1) hi hb (by decide)) ?_
  refine go_callV0 (μ := mL_law) (dd := 30) [.int _] dL_law_525 YX6_by lL_65 rfl ⟨_, rfl, rfl⟩ rfl (Nat.le_of_ble_eq_true rfl) (Nat.le_of_ble_eq_true rfl) rfl (p_by h (fun v I1 R1 L1 hp => ?_))
  refine go_aload_n dL_law_528 rfl ?_
  refine go_aloadX_n (x := 0) dL_law_529 rfl ?_
  refine go_iload_n dL_law_530 rfl ?_
  refine go_iconst (v := 1) dL_law_531 (by decide) ?_
  refine go_iadd dL_law_532 ?_
  refine go_sld dL_law_533 (s_in (k := 1) hi hb (by decide)) ?_
  refine go_callV0 (μ := mL_law) (dd := 30) [.int _] dL_law_534 YX7_by lL_68 rfl ⟨_, rfl, rfl⟩ rfl (Nat.le_of_ble_eq_true rfl) (Nat.le_of_ble_eq_true rfl) rfl (hp _ (fun I2 R2 L2 h2 => ?_))
  exact go_icmp_eq 1079 dL_law_537 (by decide) (fun _ => next I2 R2 L2 h2) (fun c => absurd rfl c)
theorem law_12 {G : gG} {I : gI} {R : gR} {L : gL} {Q : gQ} {i : Nat} (h : Rel I R) (hi : i + 6 ≤ G.2.2.2.2.1) (hb : G.2.2.2.2.1 ≤ 3072) (next : ∀ I' R' L', Rel I' R' → Go G mL_law 40 0 0 1079 [some (.float 0), some (.ref 0), some (.ref 310), some (.int (nI i))] [] SH I' R' L' Q) : Go G mL_law 40 0 0 542 [some (.float 0), some (.ref 0), some (.ref 310), some (.int (nI i))] [] SH I R L Q := by
  refine go_aload_n dL_law_542 rfl ?_
  refine go_aloadX_n (x := 0) dL_law_543 rfl ?_
  refine go_iload_n dL_law_544 rfl ?_
  refine go_iconst (v := 1) dL_law_545 (by decide) ?_
  refine go_iadd dL_law_546 ?_
  refine go_sld dL_law_547 (s_in (k := 1) hi hb (by decide)) ?_
  refine go_callV0 (μ := mL_law) (dd := 32) [.int _] dL_law_548 YX6_played lL_69 rfl ⟨_, rfl, rfl⟩ rfl (Nat.le_of_ble_eq_true rfl) (Nat.le_of_ble_eq_true rfl) rfl (p_played h (fun v I1 R1 L1 hp => ?_))
  refine go_aload_n dL_law_551 rfl ?_
  refine go_aloadX_n (x := 0) dL_law_552 rfl ?_
  refine go_iload_n dL_law_553 rfl ?_
  refine go_iconst (v := 1) dL_law_554 (by decide) ?_
  refine go_iadd dL_law_555 ?_
  refine go_sld dL_law_556 (s_in (k := 1) hi hb (by decide)) ?_
  refine go_callV0 (μ := mL_law) (dd := 31) [.int _] dL_law_557 YX7_played lL_72 rfl ⟨_, rfl, rfl⟩ rfl (Nat.le_of_ble_eq_true rfl) (Nat.le_of_ble_eq_true rfl) rfl (hp _ (fun I2 R2 L2 h2 => ?_))
  exact go_icmp_eq 1079 dL_law_560 (by decide) (fun _ => next I2 R2 L2 h2) (fun c => absurd rfl c)
theorem law_13 {G : gG} {I : gI} {R : gR} {L : gL} {Q : gQ} {i : Nat} (h : Rel I R) (hi : i + 6 ≤ G.2.2.2.2.1) (hb : G.2.2.2.2.1 ≤ 3072) (next : ∀ I' R' L', Rel I' R' → Go G mL_law 40 0 0 1079 [some (.float 0), some (.ref 0), some (.ref 310), some (.int (nI i))] [] SH I' R' L' Q) : Go G mL_law 40 0 0 565 [some (.float 0), some (.ref 0), some (.ref 310), some (.int (nI i))] [] SH I R L Q := by
  refine go_aload_n dL_law_565 rfl ?_
  refine go_callV0 (μ := mL_law) (dd := 30) [] dL_law_566 YX6_undo lL_73 rfl ⟨_, rfl, rfl⟩ rfl (Nat.le_of_ble_eq_true rfl) (Nat.le_of_ble_eq_true rfl) rfl (p_undo h (fun v I1 R1 L1 hp => ?_))
  refine go_aload_n dL_law_569 rfl ?_
  refine go_callV0 (μ := mL_law) (dd := 1) [] dL_law_570 YX7_undo lL_76 rfl ⟨_, rfl, rfl⟩ rfl (Nat.le_of_ble_eq_true rfl) (Nat.le_of_ble_eq_true rfl) rfl (hp _ (fun I2 R2 L2 h2 => ?_))
  exact go_icmp_eq 1079 dL_law_573 (by decide) (fun _ => next I2 R2 L2 h2) (fun c => absurd rfl c)
theorem law_14 {G : gG} {I : gI} {R : gR} {L : gL} {Q : gQ} {i : Nat} (h : Rel I R) (hi : i + 6 ≤ G.2.2.2.2.1) (hb : G.2.2.2.2.1 ≤ 3072) (next : ∀ I' R' L', Rel I' R' → Go G mL_law 40 0 0 1079 [some (.float 0), some (.ref 0), some (.ref 310), some (.int (nI i))] [] SH I' R' L' Q) : Go G mL_law 40 0 0 578 [some (.float 0), some (.ref 0), some (.ref 310), some (.int (nI i))] [] SH I R L Q := by
  refine go_aload_n dL_law_578 rfl ?_
  refine go_aloadX_n (x := 0) dL_law_579 rfl ?_
  refine go_iload_n dL_law_580 rfl ?_
  refine go_iconst (v := 1) dL_law_581 (by decide) ?_
  refine go_iadd dL_law_582 ?_
  refine go_sld dL_law_583 (s_in (k := 1) hi hb (by decide)) ?_
  refine go_aloadX_n (x := 0) dL_law_584 rfl ?_
  refine go_iload_n dL_law_585 rfl ?_
  refine go_iconst (v := 2) dL_law_586 (by decide) ?_
  refine go_iadd dL_law_587 ?_
  refine go_sld dL_law_588 (s_in (k := 2) hi hb (by decide)) ?_
  refine go_callV0 (μ := mL_law) (dd := 30) [.int _, .int _] dL_law_589 YX6_of lL_77 rfl ⟨_, rfl, rfl⟩ rfl (Nat.le_of_ble_eq_true rfl) (Nat.le_of_ble_eq_true rfl) rfl (p_of h (fun v I1 R1 L1 hp => ?_))
  refine go_aload_n dL_law_592 rfl ?_
  refine go_aloadX_n (x := 0) dL_law_593 rfl ?_
  refine go_iload_n dL_law_594 rfl ?_
  refine go_iconst (v := 1) dL_law_595 (by decide) ?_
  refine go_iadd dL_law_596 ?_
  refine go_sld dL_law_597 (s_in (k := 1) hi hb (by decide)) ?_
  refine go_aloadX_n (x := 0) dL_law_598 rfl ?_
  refine go_iload_n dL_law_599 rfl ?_
  refine go_iconst (v := 2) dL_law_600 (by decide) ?_
  refine go_iadd dL_law_601 ?_
  refine go_sld dL_law_602 (s_in (k := 2) hi hb (by decide)) ?_
  refine go_callV0 (μ := mL_law) (dd := 30) [.int _, .int _] dL_law_603 YX7_of lL_80 rfl ⟨_, rfl, rfl⟩ rfl (Nat.le_of_ble_eq_true rfl) (Nat.le_of_ble_eq_true rfl) rfl (hp _ (fun I2 R2 L2 h2 => ?_))
  exact go_icmp_eq 1079 dL_law_606 (by decide) (fun _ => next I2 R2 L2 h2) (fun c => absurd rfl c)
theorem law_15 {G : gG} {I : gI} {R : gR} {L : gL} {Q : gQ} {i : Nat} (h : Rel I R) (hi : i + 6 ≤ G.2.2.2.2.1) (hb : G.2.2.2.2.1 ≤ 3072) (next : ∀ I' R' L', Rel I' R' → Go G mL_law 40 0 0 1079 [some (.float 0), some (.ref 0), some (.ref 310), some (.int (nI i))] [] SH I' R' L' Q) : Go G mL_law 40 0 0 611 [some (.float 0), some (.ref 0), some (.ref 310), some (.int (nI i))] [] SH I R L Q := by
  refine go_aload_n dL_law_611 rfl ?_
  refine go_aloadX_n (x := 0) dL_law_612 rfl ?_
  refine go_iload_n dL_law_613 rfl ?_
  refine go_iconst (v := 1) dL_law_614 (by decide) ?_
  refine go_iadd dL_law_615 ?_
  refine go_sld dL_law_616 (s_in (k := 1) hi hb (by decide)) ?_
  refine go_aloadX_n (x := 0) dL_law_617 rfl ?_
  refine go_iload_n dL_law_618 rfl ?_
  refine go_iconst (v := 2) dL_law_619 (by decide) ?_
  refine go_iadd dL_law_620 ?_
  refine go_sld dL_law_621 (s_in (k := 2) hi hb (by decide)) ?_
  refine go_callV0 (μ := mL_law) (dd := 30) [.int _, .int _] dL_law_622 YX6_written lL_81 rfl ⟨_, rfl, rfl⟩ rfl (Nat.le_of_ble_eq_true rfl) (Nat.le_of_ble_eq_true rfl) rfl (p_written h (fun v I1 R1 L1 hp => ?_))
  refine go_aload_n dL_law_625 rfl ?_
  refine go_aloadX_n (x := 0) dL_law_626 rfl ?_
  refine go_iload_n dL_law_627 rfl ?_
  refine go_iconst (v := 1) dL_law_628 (by decide) ?_
  refine go_iadd dL_law_629 ?_
  refine go_sld dL_law_630 (s_in (k := 1) hi hb (by decide)) ?_
  refine go_aloadX_n (x := 0) dL_law_631 rfl ?_
  refine go_iload_n dL_law_632 rfl ?_
  refine go_iconst (v := 2) dL_law_633 (by decide) ?_
  refine go_iadd dL_law_634 ?_
  refine go_sld dL_law_635 (s_in (k := 2) hi hb (by decide)) ?_
  refine go_callV0 (μ := mL_law) (dd := 30) [.int _, .int _] dL_law_636 YX7_written lL_84 rfl ⟨_, rfl, rfl⟩ rfl (Nat.le_of_ble_eq_true rfl) (Nat.le_of_ble_eq_true rfl) rfl (hp _ (fun I2 R2 L2 h2 => ?_))
  exact go_icmp_eq 1079 dL_law_639 (by decide) (fun _ => next I2 R2 L2 h2) (fun c => absurd rfl c)
theorem law_16 {G : gG} {I : gI} {R : gR} {L : gL} {Q : gQ} {i : Nat} (h : Rel I R) (hi : i + 6 ≤ G.2.2.2.2.1) (hb : G.2.2.2.2.1 ≤ 3072) (next : ∀ I' R' L', Rel I' R' → Go G mL_law 40 0 0 1079 [some (.float 0), some (.ref 0), some (.ref 310), some (.int (nI i))] [] SH I' R' L' Q) : Go G mL_law 40 0 0 644 [some (.float 0), some (.ref 0), some (.ref 310), some (.int (nI i))] [] SH I R L Q := by
  refine go_aload_n dL_law_644 rfl ?_
  refine go_aloadX_n (x := 0) dL_law_645 rfl ?_
  refine go_iload_n dL_law_646 rfl ?_
  refine go_iconst (v := 1) dL_law_647 (by decide) ?_
  refine go_iadd dL_law_648 ?_
  refine go_sld dL_law_649 (s_in (k := 1) hi hb (by decide)) ?_
  refine go_aloadX_n (x := 0) dL_law_650 rfl ?_
  refine go_iload_n dL_law_651 rfl ?_
  refine go_iconst (v := 2) dL_law_652 (by decide) ?_
  refine go_iadd dL_law_653 ?_
  refine go_sld dL_law_654 (s_in (k := 2) hi hb (by decide)) ?_
  refine go_callV0 (μ := mL_law) (dd := 30) [.int _, .int _] dL_law_655 YX6_dent lL_85 rfl ⟨_, rfl, rfl⟩ rfl (Nat.le_of_ble_eq_true rfl) (Nat.le_of_ble_eq_true rfl) rfl (p_dent h (fun v I1 R1 L1 hp => ?_))
  refine go_aload_n dL_law_658 rfl ?_
  refine go_aloadX_n (x := 0) dL_law_659 rfl ?_
  refine go_iload_n dL_law_660 rfl ?_
  refine go_iconst (v := 1) dL_law_661 (by decide) ?_
  refine go_iadd dL_law_662 ?_
  refine go_sld dL_law_663 (s_in (k := 1) hi hb (by decide)) ?_
  refine go_aloadX_n (x := 0) dL_law_664 rfl ?_
  refine go_iload_n dL_law_665 rfl ?_
  refine go_iconst (v := 2) dL_law_666 (by decide) ?_
  refine go_iadd dL_law_667 ?_
  refine go_sld dL_law_668 (s_in (k := 2) hi hb (by decide)) ?_
  refine go_callV0 (μ := mL_law) (dd := 30) [.int _, .int _] dL_law_669 YX7_dent lL_88 rfl ⟨_, rfl, rfl⟩ rfl (Nat.le_of_ble_eq_true rfl) (Nat.le_of_ble_eq_true rfl) rfl (hp _ (fun I2 R2 L2 h2 => ?_))
  exact go_icmp_eq 1079 dL_law_672 (by decide) (fun _ => next I2 R2 L2 h2) (fun c => absurd rfl c)
theorem law_17 {G : gG} {I : gI} {R : gR} {L : gL} {Q : gQ} {i : Nat} (h : Rel I R) (hi : i + 6 ≤ G.2.2.2.2.1) (hb : G.2.2.2.2.1 ≤ 3072) (next : ∀ I' R' L', Rel I' R' → Go G mL_law 40 0 0 1079 [some (.float 0), some (.ref 0), some (.ref 310), some (.int (nI i))] [] SH I' R' L' Q) : Go G mL_law 40 0 0 677 [some (.float 0), some (.ref 0), some (.ref 310), some (.int (nI i))] [] SH I R L Q := by
  refine go_aload_n dL_law_677 rfl ?_
  refine go_aloadX_n (x := 0) dL_law_678 rfl ?_
  refine go_iload_n dL_law_679 rfl ?_
  refine go_iconst (v := 1) dL_law_680 (by decide) ?_
  refine go_iadd dL_law_681 ?_
  refine go_sld dL_law_682 (s_in (k := 1) hi hb (by decide)) ?_
  refine go_aloadX_n (x := 0) dL_law_683 rfl ?_
  refine go_iload_n dL_law_684 rfl ?_
  refine go_iconst (v := 2) dL_law_685 (by decide) ?_
  refine go_iadd dL_law_686 ?_
  refine go_sld dL_law_687 (s_in (k := 2) hi hb (by decide)) ?_
  refine go_aloadX_n (x := 0) dL_law_688 rfl ?_
  refine go_iload_n dL_law_689 rfl ?_
  refine go_iconst (v := 3) dL_law_690 (by decide) ?_
  refine go_iadd dL_law_691 ?_
  refine go_sld dL_law_692 (s_in (k := 3) hi hb (by decide)) ?_
  refine go_callV0 (μ := mL_law) (dd := 30) [.int _, .int _, .int _] dL_law_693 YX6_called lL_89 rfl ⟨_, rfl, rfl⟩ rfl (Nat.le_of_ble_eq_true rfl) (Nat.le_of_ble_eq_true rfl) rfl (p_called h (fun v I1 R1 L1 hp => ?_))
  refine go_aload_n dL_law_696 rfl ?_
  refine go_aloadX_n (x := 0) dL_law_697 rfl ?_
  refine go_iload_n dL_law_698 rfl ?_
  refine go_iconst (v := 1) dL_law_699 (by decide) ?_
  refine go_iadd dL_law_700 ?_
  refine go_sld dL_law_701 (s_in (k := 1) hi hb (by decide)) ?_
  refine go_aloadX_n (x := 0) dL_law_702 rfl ?_
  refine go_iload_n dL_law_703 rfl ?_
  refine go_iconst (v := 2) dL_law_704 (by decide) ?_
  refine go_iadd dL_law_705 ?_
  refine go_sld dL_law_706 (s_in (k := 2) hi hb (by decide)) ?_
  refine go_aloadX_n (x := 0) dL_law_707 rfl ?_
  refine go_iload_n dL_law_708 rfl ?_
  refine go_iconst (v := 3) dL_law_709 (by decide) ?_
  refine go_iadd dL_law_710 ?_
  refine go_sld dL_law_711 (s_in (k := 3) hi hb (by decide)) ?_
  refine go_callV0 (μ := mL_law) (dd := 30) [.int _, .int _, .int _] dL_law_712 YX7_called lL_92 rfl ⟨_, rfl, rfl⟩ rfl (Nat.le_of_ble_eq_true rfl) (Nat.le_of_ble_eq_true rfl) rfl (hp _ (fun I2 R2 L2 h2 => ?_))
  exact go_icmp_eq 1079 dL_law_715 (by decide) (fun _ => next I2 R2 L2 h2) (fun c => absurd rfl c)
theorem law_18 {G : gG} {I : gI} {R : gR} {L : gL} {Q : gQ} {i : Nat} (h : Rel I R) (hi : i + 6 ≤ G.2.2.2.2.1) (hb : G.2.2.2.2.1 ≤ 3072) (next : ∀ I' R' L', Rel I' R' → Go G mL_law 40 0 0 1079 [some (.float 0), some (.ref 0), some (.ref 310), some (.int (nI i))] [] SH I' R' L' Q) : Go G mL_law 40 0 0 720 [some (.float 0), some (.ref 0), some (.ref 310), some (.int (nI i))] [] SH I R L Q := by
  refine go_aload_n dL_law_720 rfl ?_
  refine go_aloadX_n (x := 0) dL_law_721 rfl ?_
  refine go_iload_n dL_law_722 rfl ?_
  refine go_iconst (v := 1) dL_law_723 (by decide) ?_
  refine go_iadd dL_law_724 ?_
  refine go_sld dL_law_725 (s_in (k := 1) hi hb (by decide)) ?_
  refine go_aloadX_n (x := 0) dL_law_726 rfl ?_
  refine go_iload_n dL_law_727 rfl ?_
  refine go_iconst (v := 2) dL_law_728 (by decide) ?_
  refine go_iadd dL_law_729 ?_
  refine go_sld dL_law_730 (s_in (k := 2) hi hb (by decide)) ?_
  refine go_callV0 (μ := mL_law) (dd := 30) [.int _, .int _] dL_law_731 YX6_acquitted lL_93 rfl ⟨_, rfl, rfl⟩ rfl (Nat.le_of_ble_eq_true rfl) (Nat.le_of_ble_eq_true rfl) rfl (p_acquitted h (fun v I1 R1 L1 hp => ?_))
  refine go_aload_n dL_law_734 rfl ?_
  refine go_aloadX_n (x := 0) dL_law_735 rfl ?_
  refine go_iload_n dL_law_736 rfl ?_
  refine go_iconst (v := 1) dL_law_737 (by decide) ?_
  refine go_iadd dL_law_738 ?_
  refine go_sld dL_law_739 (s_in (k := 1) hi hb (by decide)) ?_
  refine go_aloadX_n (x := 0) dL_law_740 rfl ?_
  refine go_iload_n dL_law_741 rfl ?_
  refine go_iconst (v := 2) dL_law_742 (by decide) ?_
  refine go_iadd dL_law_743 ?_
  refine go_sld dL_law_744 (s_in (k := 2) hi hb (by decide)) ?_
  refine go_callV0 (μ := mL_law) (dd := 21) [.int _, .int _] dL_law_745 YX7_acquitted lL_96 rfl ⟨_, rfl, rfl⟩ rfl (Nat.le_of_ble_eq_true rfl) (Nat.le_of_ble_eq_true rfl) rfl (hp _ (fun I2 R2 L2 h2 => ?_))
  exact go_icmp_eq 1079 dL_law_748 (by decide) (fun _ => next I2 R2 L2 h2) (fun c => absurd rfl c)
theorem law_19 {G : gG} {I : gI} {R : gR} {L : gL} {Q : gQ} {i : Nat} (h : Rel I R) (hi : i + 6 ≤ G.2.2.2.2.1) (hb : G.2.2.2.2.1 ≤ 3072) (next : ∀ I' R' L', Rel I' R' → Go G mL_law 40 0 0 1079 [some (.float 0), some (.ref 0), some (.ref 310), some (.int (nI i))] [] SH I' R' L' Q) : Go G mL_law 40 0 0 753 [some (.float 0), some (.ref 0), some (.ref 310), some (.int (nI i))] [] SH I R L Q := by
  refine go_aload_n dL_law_753 rfl ?_
  refine go_aloadX_n (x := 0) dL_law_754 rfl ?_
  refine go_iload_n dL_law_755 rfl ?_
  refine go_iconst (v := 1) dL_law_756 (by decide) ?_
  refine go_iadd dL_law_757 ?_
  refine go_sld dL_law_758 (s_in (k := 1) hi hb (by decide)) ?_
  refine go_aloadX_n (x := 0) dL_law_759 rfl ?_
  refine go_iload_n dL_law_760 rfl ?_
  refine go_iconst (v := 2) dL_law_761 (by decide) ?_
  refine go_iadd dL_law_762 ?_
  refine go_sld dL_law_763 (s_in (k := 2) hi hb (by decide)) ?_
  refine go_aloadX_n (x := 0) dL_law_764 rfl ?_
  refine go_iload_n dL_law_765 rfl ?_
  refine go_iconst (v := 3) dL_law_766 (by decide) ?_
  refine go_iadd dL_law_767 ?_
  refine go_sld dL_law_768 (s_in (k := 3) hi hb (by decide)) ?_
  refine go_aloadX_n (x := 0) dL_law_769 rfl ?_
  refine go_iload_n dL_law_770 rfl ?_
  refine go_iconst (v := 4) dL_law_771 (by decide) ?_
  refine go_iadd dL_law_772 ?_
  refine go_sld dL_law_773 (s_in (k := 4) hi hb (by decide)) ?_
  refine go_callV0 (μ := mL_law) (dd := 30) [.int _, .int _, .int _, .int _] dL_law_774 YX6_sets lL_97 rfl ⟨_, rfl, rfl⟩ rfl (Nat.le_of_ble_eq_true rfl) (Nat.le_of_ble_eq_true rfl) rfl (p_sets h (fun v I1 R1 L1 hp => ?_))
  refine go_aload_n dL_law_777 rfl ?_
  refine go_aloadX_n (x := 0) dL_law_778 rfl ?_
  refine go_iload_n dL_law_779 rfl ?_
  refine go_iconst (v := 1) dL_law_780 (by decide) ?_
  refine go_iadd dL_law_781 ?_
  refine go_sld dL_law_782 (s_in (k := 1) hi hb (by decide)) ?_
  refine go_aloadX_n (x := 0) dL_law_783 rfl ?_
  refine go_iload_n dL_law_784 rfl ?_
  refine go_iconst (v := 2) dL_law_785 (by decide) ?_
  refine go_iadd dL_law_786 ?_
  refine go_sld dL_law_787 (s_in (k := 2) hi hb (by decide)) ?_
  refine go_aloadX_n (x := 0) dL_law_788 rfl ?_
  refine go_iload_n dL_law_789 rfl ?_
  refine go_iconst (v := 3) dL_law_790 (by decide) ?_
  refine go_iadd dL_law_791 ?_
  refine go_sld dL_law_792 (s_in (k := 3) hi hb (by decide)) ?_
  refine go_aloadX_n (x := 0) dL_law_793 rfl ?_
  refine go_iload_n dL_law_794 rfl ?_
  refine go_iconst (v := 4) dL_law_795 (by decide) ?_
  refine go_iadd dL_law_796 ?_
  refine go_sld dL_law_797 (s_in (k := 4) hi hb (by decide)) ?_
  refine go_callV0 (μ := mL_law) (dd := 30) [.int _, .int _, .int _, .int _] dL_law_798 YX7_sets lL_101 rfl ⟨_, rfl, rfl⟩ rfl (Nat.le_of_ble_eq_true rfl) (Nat.le_of_ble_eq_true rfl) rfl (hp _ (fun I2 R2 L2 h2 => ?_))
  exact go_icmp_eq 1079 dL_law_801 (by decide) (fun _ => next I2 R2 L2 h2) (fun c => absurd rfl c)
theorem law_20 {G : gG} {I : gI} {R : gR} {L : gL} {Q : gQ} {i : Nat} (h : Rel I R) (hi : i + 6 ≤ G.2.2.2.2.1) (hb : G.2.2.2.2.1 ≤ 3072) (next : ∀ I' R' L', Rel I' R' → Go G mL_law 40 0 0 1079 [some (.float 0), some (.ref 0), some (.ref 310), some (.int (nI i))] [] SH I' R' L' Q) : Go G mL_law 40 0 0 806 [some (.float 0), some (.ref 0), some (.ref 310), some (.int (nI i))] [] SH I R L Q := by
  refine go_aload_n dL_law_806 rfl ?_
  refine go_aloadX_n (x := 0) dL_law_807 rfl ?_
  refine go_iload_n dL_law_808 rfl ?_
  refine go_iconst (v := 1) dL_law_809 (by decide) ?_
  refine go_iadd dL_law_810 ?_
  refine go_sld dL_law_811 (s_in (k := 1) hi hb (by decide)) ?_
  refine go_aloadX_n (x := 0) dL_law_812 rfl ?_
  refine go_iload_n dL_law_813 rfl ?_
  refine go_iconst (v := 2) dL_law_814 (by decide) ?_
  refine go_iadd dL_law_815 ?_
  refine go_sld dL_law_816 (s_in (k := 2) hi hb (by decide)) ?_
  refine go_callV0 (μ := mL_law) (dd := 30) [.int _, .int _] dL_law_817 YX6_tested lL_102 rfl ⟨_, rfl, rfl⟩ rfl (Nat.le_of_ble_eq_true rfl) (Nat.le_of_ble_eq_true rfl) rfl (p_tested h (fun v I1 R1 L1 hp => ?_))
  refine go_aload_n dL_law_820 rfl ?_
  refine go_aloadX_n (x := 0) dL_law_821 rfl ?_
  refine go_iload_n dL_law_822 rfl ?_
  refine go_iconst (v := 1) dL_law_823 (by decide) ?_
  refine go_iadd dL_law_824 ?_
  refine go_sld dL_law_825 (s_in (k := 1) hi hb (by decide)) ?_
  refine go_aloadX_n (x := 0) dL_law_826 rfl ?_
  refine go_iload_n dL_law_827 rfl ?_
  refine go_iconst (v := 2) dL_law_828 (by decide) ?_
  refine go_iadd dL_law_829 ?_
  refine go_sld dL_law_830 (s_in (k := 2) hi hb (by decide)) ?_
  refine go_callV0 (μ := mL_law) (dd := 30) [.int _, .int _] dL_law_831 YX7_tested lL_105 rfl ⟨_, rfl, rfl⟩ rfl (Nat.le_of_ble_eq_true rfl) (Nat.le_of_ble_eq_true rfl) rfl (hp _ (fun I2 R2 L2 h2 => ?_))
  exact go_icmp_eq 1079 dL_law_834 (by decide) (fun _ => next I2 R2 L2 h2) (fun c => absurd rfl c)
theorem law_21 {G : gG} {I : gI} {R : gR} {L : gL} {Q : gQ} {i : Nat} (h : Rel I R) (hi : i + 6 ≤ G.2.2.2.2.1) (hb : G.2.2.2.2.1 ≤ 3072) (next : ∀ I' R' L', Rel I' R' → Go G mL_law 40 0 0 1079 [some (.float 0), some (.ref 0), some (.ref 310), some (.int (nI i))] [] SH I' R' L' Q) : Go G mL_law 40 0 0 839 [some (.float 0), some (.ref 0), some (.ref 310), some (.int (nI i))] [] SH I R L Q := by
  refine go_aload_n dL_law_839 rfl ?_
  refine go_callV0 (μ := mL_law) (dd := 30) [] dL_law_840 YX6_fits lL_106 rfl ⟨_, rfl, rfl⟩ rfl (Nat.le_of_ble_eq_true rfl) (Nat.le_of_ble_eq_true rfl) rfl (p_fits h (fun v I1 R1 L1 hp => ?_))
  refine go_aload_n dL_law_843 rfl ?_
  refine go_callV0 (μ := mL_law) (dd := 5) [] dL_law_844 YX7_fits lL_109 rfl ⟨_, rfl, rfl⟩ rfl (Nat.le_of_ble_eq_true rfl) (Nat.le_of_ble_eq_true rfl) rfl (hp _ (fun I2 R2 L2 h2 => ?_))
  exact go_icmp_eq 1079 dL_law_847 (by decide) (fun _ => next I2 R2 L2 h2) (fun c => absurd rfl c)
theorem law_22 {G : gG} {I : gI} {R : gR} {L : gL} {Q : gQ} {i : Nat} (h : Rel I R) (hi : i + 6 ≤ G.2.2.2.2.1) (hb : G.2.2.2.2.1 ≤ 3072) (next : ∀ I' R' L', Rel I' R' → Go G mL_law 40 0 0 1079 [some (.float 0), some (.ref 0), some (.ref 310), some (.int (nI i))] [] SH I' R' L' Q) : Go G mL_law 40 0 0 852 [some (.float 0), some (.ref 0), some (.ref 310), some (.int (nI i))] [] SH I R L Q := by
  refine go_aload_n dL_law_852 rfl ?_
  refine go_callV0 (μ := mL_law) (dd := 30) [] dL_law_853 YX6_next lL_110 rfl ⟨_, rfl, rfl⟩ rfl (Nat.le_of_ble_eq_true rfl) (Nat.le_of_ble_eq_true rfl) rfl (p_next h (fun v I1 R1 L1 hp => ?_))
  refine go_aload_n dL_law_856 rfl ?_
  refine go_callV0 (μ := mL_law) (dd := 30) [] dL_law_857 YX7_next lL_113 rfl ⟨_, rfl, rfl⟩ rfl (Nat.le_of_ble_eq_true rfl) (Nat.le_of_ble_eq_true rfl) rfl (hp _ (fun I2 R2 L2 h2 => ?_))
  exact go_icmp_eq 1079 dL_law_860 (by decide) (fun _ => next I2 R2 L2 h2) (fun c => absurd rfl c)
theorem law_23 {G : gG} {I : gI} {R : gR} {L : gL} {Q : gQ} {i : Nat} (h : Rel I R) (hi : i + 6 ≤ G.2.2.2.2.1) (hb : G.2.2.2.2.1 ≤ 3072) (next : ∀ I' R' L', Rel I' R' → Go G mL_law 40 0 0 1079 [some (.float 0), some (.ref 0), some (.ref 310), some (.int (nI i))] [] SH I' R' L' Q) : Go G mL_law 40 0 0 865 [some (.float 0), some (.ref 0), some (.ref 310), some (.int (nI i))] [] SH I R L Q := by
  refine go_aload_n dL_law_865 rfl ?_
  refine go_aloadX_n (x := 0) dL_law_866 rfl ?_
  refine go_iload_n dL_law_867 rfl ?_
  refine go_iconst (v := 1) dL_law_868 (by decide) ?_
  refine go_iadd dL_law_869 ?_
  refine go_sld dL_law_870 (s_in (k := 1) hi hb (by decide)) ?_
  refine go_callV0 (μ := mL_law) (dd := 30) [.int _] dL_law_871 YX6_hired lL_114 rfl ⟨_, rfl, rfl⟩ rfl (Nat.le_of_ble_eq_true rfl) (Nat.le_of_ble_eq_true rfl) rfl (p_hired h (fun v I1 R1 L1 hp => ?_))
  refine go_aload_n dL_law_874 rfl ?_
  refine go_aloadX_n (x := 0) dL_law_875 rfl ?_
  refine go_iload_n dL_law_876 rfl ?_
  refine go_iconst (v := 1) dL_law_877 (by decide) ?_
  refine go_iadd dL_law_878 ?_
  refine go_sld dL_law_879 (s_in (k := 1) hi hb (by decide)) ?_
  refine go_callV0 (μ := mL_law) (dd := 30) [.int _] dL_law_880 YX7_hired lL_117 rfl ⟨_, rfl, rfl⟩ rfl (Nat.le_of_ble_eq_true rfl) (Nat.le_of_ble_eq_true rfl) rfl (hp _ (fun I2 R2 L2 h2 => ?_))
  exact go_icmp_eq 1079 dL_law_883 (by decide) (fun _ => next I2 R2 L2 h2) (fun c => absurd rfl c)
theorem law_24 {G : gG} {I : gI} {R : gR} {L : gL} {Q : gQ} {i : Nat} (h : Rel I R) (hi : i + 6 ≤ G.2.2.2.2.1) (hb : G.2.2.2.2.1 ≤ 3072) (next : ∀ I' R' L', Rel I' R' → Go G mL_law 40 0 0 1079 [some (.float 0), some (.ref 0), some (.ref 310), some (.int (nI i))] [] SH I' R' L' Q) : Go G mL_law 40 0 0 888 [some (.float 0), some (.ref 0), some (.ref 310), some (.int (nI i))] [] SH I R L Q := by
  refine go_aload_n dL_law_888 rfl ?_
  refine go_callV0 (μ := mL_law) (dd := 30) [] dL_law_889 YX6_contrary lL_118 rfl ⟨_, rfl, rfl⟩ rfl (Nat.le_of_ble_eq_true rfl) (Nat.le_of_ble_eq_true rfl) rfl (p_contrary h (fun v I1 R1 L1 hp => ?_))
  refine go_aload_n dL_law_892 rfl ?_
  refine go_callV0 (μ := mL_law) (dd := 30) [] dL_law_893 YX7_contrary lL_121 rfl ⟨_, rfl, rfl⟩ rfl (Nat.le_of_ble_eq_true rfl) (Nat.le_of_ble_eq_true rfl) rfl (hp _ (fun I2 R2 L2 h2 => ?_))
  exact go_icmp_eq 1079 dL_law_896 (by decide) (fun _ => next I2 R2 L2 h2) (fun c => absurd rfl c)
theorem law_25 {G : gG} {I : gI} {R : gR} {L : gL} {Q : gQ} {i : Nat} (h : Rel I R) (hi : i + 6 ≤ G.2.2.2.2.1) (hb : G.2.2.2.2.1 ≤ 3072) (next : ∀ I' R' L', Rel I' R' → Go G mL_law 40 0 0 1079 [some (.float 0), some (.ref 0), some (.ref 310), some (.int (nI i))] [] SH I' R' L' Q) : Go G mL_law 40 0 0 901 [some (.float 0), some (.ref 0), some (.ref 310), some (.int (nI i))] [] SH I R L Q := by
  refine go_aload_n dL_law_901 rfl ?_
  refine go_aloadX_n (x := 0) dL_law_902 rfl ?_
  refine go_iload_n dL_law_903 rfl ?_
  refine go_iconst (v := 1) dL_law_904 (by decide) ?_
  refine go_iadd dL_law_905 ?_
  refine go_sld dL_law_906 (s_in (k := 1) hi hb (by decide)) ?_
  refine go_aloadX_n (x := 0) dL_law_907 rfl ?_
  refine go_iload_n dL_law_908 rfl ?_
  refine go_iconst (v := 2) dL_law_909 (by decide) ?_
  refine go_iadd dL_law_910 ?_
  refine go_sld dL_law_911 (s_in (k := 2) hi hb (by decide)) ?_
  refine go_aloadX_n (x := 0) dL_law_912 rfl ?_
  refine go_iload_n dL_law_913 rfl ?_
  refine go_iconst (v := 3) dL_law_914 (by decide) ?_
  refine go_iadd dL_law_915 ?_
  refine go_sld dL_law_916 (s_in (k := 3) hi hb (by decide)) ?_
  refine go_if_eq 924 dL_law_917 (by decide) (fun c => ?_) (fun c => ?_)
  · refine go_iconst (v := 0) dL_law_924 (by decide) ?_
    refine go_callV0 (μ := mL_law) (dd := 30) [.int _, .int _, .int _] dL_law_925 YX6_odds lL_122 rfl ⟨_, rfl, rfl⟩ rfl (Nat.le_of_ble_eq_true rfl) (Nat.le_of_ble_eq_true rfl) rfl (p_odds h (fun v I1 R1 L1 hp => ?_))
    refine go_aload_n dL_law_928 rfl ?_
    refine go_aloadX_n (x := 0) dL_law_929 rfl ?_
    refine go_iload_n dL_law_930 rfl ?_
    refine go_iconst (v := 1) dL_law_931 (by decide) ?_
    refine go_iadd dL_law_932 ?_
    refine go_sld dL_law_933 (s_in (k := 1) hi hb (by decide)) ?_
    refine go_aloadX_n (x := 0) dL_law_934 rfl ?_
    refine go_iload_n dL_law_935 rfl ?_
    refine go_iconst (v := 2) dL_law_936 (by decide) ?_
    refine go_iadd dL_law_937 ?_
    refine go_sld dL_law_938 (s_in (k := 2) hi hb (by decide)) ?_
    refine go_aloadX_n (x := 0) dL_law_939 rfl ?_
    refine go_iload_n dL_law_940 rfl ?_
    refine go_iconst (v := 3) dL_law_941 (by decide) ?_
    refine go_iadd dL_law_942 ?_
    refine go_sld dL_law_943 (s_in (k := 3) hi hb (by decide)) ?_
    refine go_if_eq 951 dL_law_944 (by decide) (fun _ => ?_) (fun c2 => absurd c c2)
    refine go_iconst (v := 0) dL_law_951 (by decide) ?_
    refine go_callV0 (μ := mL_law) (dd := 30) [.int _, .int _, .int _] dL_law_952 YX7_odds lL_126 rfl ⟨_, rfl, rfl⟩ rfl (Nat.le_of_ble_eq_true rfl) (Nat.le_of_ble_eq_true rfl) rfl (hp _ (fun I2 R2 L2 h2 => ?_))
    refine go_lcmp dL_law_955 ?_
    rw [lg_cmp_self]
    exact go_if_eq 1079 dL_law_956 (by decide) (fun _ => next I2 R2 L2 h2) (fun c => absurd rfl c)
  · refine go_iconst (v := 1) dL_law_920 (by decide) ?_
    refine go_goto 925 dL_law_921 (by decide) ?_
    refine go_callV0 (μ := mL_law) (dd := 30) [.int _, .int _, .int _] dL_law_925 YX6_odds lL_122 rfl ⟨_, rfl, rfl⟩ rfl (Nat.le_of_ble_eq_true rfl) (Nat.le_of_ble_eq_true rfl) rfl (p_odds h (fun v I1 R1 L1 hp => ?_))
    refine go_aload_n dL_law_928 rfl ?_
    refine go_aloadX_n (x := 0) dL_law_929 rfl ?_
    refine go_iload_n dL_law_930 rfl ?_
    refine go_iconst (v := 1) dL_law_931 (by decide) ?_
    refine go_iadd dL_law_932 ?_
    refine go_sld dL_law_933 (s_in (k := 1) hi hb (by decide)) ?_
    refine go_aloadX_n (x := 0) dL_law_934 rfl ?_
    refine go_iload_n dL_law_935 rfl ?_
    refine go_iconst (v := 2) dL_law_936 (by decide) ?_
    refine go_iadd dL_law_937 ?_
    refine go_sld dL_law_938 (s_in (k := 2) hi hb (by decide)) ?_
    refine go_aloadX_n (x := 0) dL_law_939 rfl ?_
    refine go_iload_n dL_law_940 rfl ?_
    refine go_iconst (v := 3) dL_law_941 (by decide) ?_
    refine go_iadd dL_law_942 ?_
    refine go_sld dL_law_943 (s_in (k := 3) hi hb (by decide)) ?_
    refine go_if_eq 951 dL_law_944 (by decide) (fun c2 => absurd c2 c) (fun _ => ?_)
    refine go_iconst (v := 1) dL_law_947 (by decide) ?_
    refine go_goto 952 dL_law_948 (by decide) ?_
    refine go_callV0 (μ := mL_law) (dd := 30) [.int _, .int _, .int _] dL_law_952 YX7_odds lL_126 rfl ⟨_, rfl, rfl⟩ rfl (Nat.le_of_ble_eq_true rfl) (Nat.le_of_ble_eq_true rfl) rfl (hp _ (fun I2 R2 L2 h2 => ?_))
    refine go_lcmp dL_law_955 ?_
    rw [lg_cmp_self]
    exact go_if_eq 1079 dL_law_956 (by decide) (fun _ => next I2 R2 L2 h2) (fun c => absurd rfl c)
theorem law_26 {G : gG} {I : gI} {R : gR} {L : gL} {Q : gQ} {i : Nat} (h : Rel I R) (hi : i + 6 ≤ G.2.2.2.2.1) (hb : G.2.2.2.2.1 ≤ 3072) (next : ∀ I' R' L', Rel I' R' → Go G mL_law 40 0 0 1079 [some (.float 0), some (.ref 0), some (.ref 310), some (.int (nI i))] [] SH I' R' L' Q) : Go G mL_law 40 0 0 961 [some (.float 0), some (.ref 0), some (.ref 310), some (.int (nI i))] [] SH I R L Q := by
  refine go_aload_n dL_law_961 rfl ?_
  refine go_aloadX_n (x := 0) dL_law_962 rfl ?_
  refine go_iload_n dL_law_963 rfl ?_
  refine go_iconst (v := 1) dL_law_964 (by decide) ?_
  refine go_iadd dL_law_965 ?_
  refine go_sld dL_law_966 (s_in (k := 1) hi hb (by decide)) ?_
  refine go_aloadX_n (x := 0) dL_law_967 rfl ?_
  refine go_iload_n dL_law_968 rfl ?_
  refine go_iconst (v := 2) dL_law_969 (by decide) ?_
  refine go_iadd dL_law_970 ?_
  refine go_sld dL_law_971 (s_in (k := 2) hi hb (by decide)) ?_
  refine go_callV0 (μ := mL_law) (dd := 30) [.int _, .int _] dL_law_972 YX6_tell lL_127 rfl ⟨_, rfl, rfl⟩ rfl (Nat.le_of_ble_eq_true rfl) (Nat.le_of_ble_eq_true rfl) rfl (p_tell h (fun v I1 R1 L1 hp => ?_))
  refine go_aload_n dL_law_975 rfl ?_
  refine go_aloadX_n (x := 0) dL_law_976 rfl ?_
  refine go_iload_n dL_law_977 rfl ?_
  refine go_iconst (v := 1) dL_law_978 (by decide) ?_
  refine go_iadd dL_law_979 ?_
  refine go_sld dL_law_980 (s_in (k := 1) hi hb (by decide)) ?_
  refine go_aloadX_n (x := 0) dL_law_981 rfl ?_
  refine go_iload_n dL_law_982 rfl ?_
  refine go_iconst (v := 2) dL_law_983 (by decide) ?_
  refine go_iadd dL_law_984 ?_
  refine go_sld dL_law_985 (s_in (k := 2) hi hb (by decide)) ?_
  refine go_callV0 (μ := mL_law) (dd := 30) [.int _, .int _] dL_law_986 YX7_tell lL_130 rfl ⟨_, rfl, rfl⟩ rfl (Nat.le_of_ble_eq_true rfl) (Nat.le_of_ble_eq_true rfl) rfl (hp _ (fun I2 R2 L2 h2 => ?_))
  exact go_icmp_eq 1079 dL_law_989 (by decide) (fun _ => next I2 R2 L2 h2) (fun c => absurd rfl c)
theorem law_27 {G : gG} {I : gI} {R : gR} {L : gL} {Q : gQ} {i : Nat} (h : Rel I R) (hi : i + 6 ≤ G.2.2.2.2.1) (hb : G.2.2.2.2.1 ≤ 3072) (next : ∀ I' R' L', Rel I' R' → Go G mL_law 40 0 0 1079 [some (.float 0), some (.ref 0), some (.ref 310), some (.int (nI i))] [] SH I' R' L' Q) : Go G mL_law 40 0 0 994 [some (.float 0), some (.ref 0), some (.ref 310), some (.int (nI i))] [] SH I R L Q := by
  refine go_aload_n dL_law_994 rfl ?_
  refine go_callV0 (μ := mL_law) (dd := 30) [] dL_law_995 YX6_liars lL_131 rfl ⟨_, rfl, rfl⟩ rfl (Nat.le_of_ble_eq_true rfl) (Nat.le_of_ble_eq_true rfl) rfl (p_liars h (fun v I1 R1 L1 hp => ?_))
  refine go_aload_n dL_law_998 rfl ?_
  refine go_callV0 (μ := mL_law) (dd := 30) [] dL_law_999 YX7_liars lL_134 rfl ⟨_, rfl, rfl⟩ rfl (Nat.le_of_ble_eq_true rfl) (Nat.le_of_ble_eq_true rfl) rfl (hp _ (fun I2 R2 L2 h2 => ?_))
  exact go_icmp_eq 1079 dL_law_1002 (by decide) (fun _ => next I2 R2 L2 h2) (fun c => absurd rfl c)
theorem law_28 {G : gG} {I : gI} {R : gR} {L : gL} {Q : gQ} {i : Nat} (h : Rel I R) (hi : i + 6 ≤ G.2.2.2.2.1) (hb : G.2.2.2.2.1 ≤ 3072) (next : ∀ I' R' L', Rel I' R' → Go G mL_law 40 0 0 1079 [some (.float 0), some (.ref 0), some (.ref 310), some (.int (nI i))] [] SH I' R' L' Q) : Go G mL_law 40 0 0 1007 [some (.float 0), some (.ref 0), some (.ref 310), some (.int (nI i))] [] SH I R L Q := by
  refine go_aload_n dL_law_1007 rfl ?_
  refine go_aloadX_n (x := 0) dL_law_1008 rfl ?_
  refine go_iload_n dL_law_1009 rfl ?_
  refine go_iconst (v := 1) dL_law_1010 (by decide) ?_
  refine go_iadd dL_law_1011 ?_
  refine go_sld dL_law_1012 (s_in (k := 1) hi hb (by decide)) ?_
  refine go_callV0 (μ := mL_law) (dd := 30) [.int _] dL_law_1013 YX6_inWhoseName lL_135 rfl ⟨_, rfl, rfl⟩ rfl (Nat.le_of_ble_eq_true rfl) (Nat.le_of_ble_eq_true rfl) rfl (p_inWhoseName h (fun v I1 R1 L1 hp => ?_))
  refine go_aload_n dL_law_1016 rfl ?_
  refine go_aloadX_n (x := 0) dL_law_1017 rfl ?_
  refine go_iload_n dL_law_1018 rfl ?_
  refine go_iconst (v := 1) dL_law_1019 (by decide) ?_
  refine go_iadd dL_law_1020 ?_
  refine go_sld dL_law_1021 (s_in (k := 1) hi hb (by decide)) ?_
  refine go_callV0 (μ := mL_law) (dd := 30) [.int _] dL_law_1022 YX7_inWhoseName lL_138 rfl ⟨_, rfl, rfl⟩ rfl (Nat.le_of_ble_eq_true rfl) (Nat.le_of_ble_eq_true rfl) rfl (hp _ (fun I2 R2 L2 h2 => ?_))
  exact go_icmp_eq 1079 dL_law_1025 (by decide) (fun _ => next I2 R2 L2 h2) (fun c => absurd rfl c)
theorem law_29 {G : gG} {I : gI} {R : gR} {L : gL} {Q : gQ} {i : Nat} (h : Rel I R) (hi : i + 6 ≤ G.2.2.2.2.1) (hb : G.2.2.2.2.1 ≤ 3072) (next : ∀ I' R' L', Rel I' R' → Go G mL_law 40 0 0 1079 [some (.float 0), some (.ref 0), some (.ref 310), some (.int (nI i))] [] SH I' R' L' Q) : Go G mL_law 40 0 0 1030 [some (.float 0), some (.ref 0), some (.ref 310), some (.int (nI i))] [] SH I R L Q := by
  refine go_aload_n dL_law_1030 rfl ?_
  refine go_callV0 (μ := mL_law) (dd := 30) [] dL_law_1031 YX6_image lL_139 rfl ⟨_, rfl, rfl⟩ rfl (Nat.le_of_ble_eq_true rfl) (Nat.le_of_ble_eq_true rfl) rfl (p_image h (fun v I1 R1 L1 hp => ?_))
  refine go_aload_n dL_law_1034 rfl ?_
  refine go_callV0 (μ := mL_law) (dd := 30) [] dL_law_1035 YX7_image lL_142 rfl ⟨_, rfl, rfl⟩ rfl (Nat.le_of_ble_eq_true rfl) (Nat.le_of_ble_eq_true rfl) rfl (hp _ (fun I2 R2 L2 h2 => ?_))
  exact go_icmp_eq 1079 dL_law_1038 (by decide) (fun _ => next I2 R2 L2 h2) (fun c => absurd rfl c)
theorem law_30 {G : gG} {I : gI} {R : gR} {L : gL} {Q : gQ} {i : Nat} (h : Rel I R) (hi : i + 6 ≤ G.2.2.2.2.1) (hb : G.2.2.2.2.1 ≤ 3072) (next : ∀ I' R' L', Rel I' R' → Go G mL_law 40 0 0 1079 [some (.float 0), some (.ref 0), some (.ref 310), some (.int (nI i))] [] SH I' R' L' Q) : Go G mL_law 40 0 0 1043 [some (.float 0), some (.ref 0), some (.ref 310), some (.int (nI i))] [] SH I R L Q := by
  refine go_aload_n dL_law_1043 rfl ?_
  refine go_callV0 (μ := mL_law) (dd := 30) [] dL_law_1044 YX6_back lL_143 rfl ⟨_, rfl, rfl⟩ rfl (Nat.le_of_ble_eq_true rfl) (Nat.le_of_ble_eq_true rfl) rfl (p_back h (fun v I1 R1 L1 hp => ?_))
  refine go_aload_n dL_law_1047 rfl ?_
  refine go_callV0 (μ := mL_law) (dd := 30) [] dL_law_1048 YX7_back lL_146 rfl ⟨_, rfl, rfl⟩ rfl (Nat.le_of_ble_eq_true rfl) (Nat.le_of_ble_eq_true rfl) rfl (hp _ (fun I2 R2 L2 h2 => ?_))
  exact go_icmp_eq 1079 dL_law_1051 (by decide) (fun _ => next I2 R2 L2 h2) (fun c => absurd rfl c)
theorem law_31 {G : gG} {I : gI} {R : gR} {L : gL} {Q : gQ} {i : Nat} (h : Rel I R) (hi : i + 6 ≤ G.2.2.2.2.1) (hb : G.2.2.2.2.1 ≤ 3072) (next : ∀ I' R' L', Rel I' R' → Go G mL_law 40 0 0 1079 [some (.float 0), some (.ref 0), some (.ref 310), some (.int (nI i))] [] SH I' R' L' Q) : Go G mL_law 40 0 0 1056 [some (.float 0), some (.ref 0), some (.ref 310), some (.int (nI i))] [] SH I R L Q := by
  refine go_aload_n dL_law_1056 rfl ?_
  refine go_aloadX_n (x := 0) dL_law_1057 rfl ?_
  refine go_iload_n dL_law_1058 rfl ?_
  refine go_iconst (v := 1) dL_law_1059 (by decide) ?_
  refine go_iadd dL_law_1060 ?_
  refine go_sld dL_law_1061 (s_in (k := 1) hi hb (by decide)) ?_
  refine go_callV0 (μ := mL_law) (dd := 30) [.int _] dL_law_1062 YX6_about lL_147 rfl ⟨_, rfl, rfl⟩ rfl (Nat.le_of_ble_eq_true rfl) (Nat.le_of_ble_eq_true rfl) rfl (p_about h (fun v I1 R1 L1 hp => ?_))
  refine go_aload_n dL_law_1065 rfl ?_
  refine go_aloadX_n (x := 0) dL_law_1066 rfl ?_
  refine go_iload_n dL_law_1067 rfl ?_
  refine go_iconst (v := 1) dL_law_1068 (by decide) ?_
  refine go_iadd dL_law_1069 ?_
  refine go_sld dL_law_1070 (s_in (k := 1) hi hb (by decide)) ?_
  refine go_callV0 (μ := mL_law) (dd := 30) [.int _] dL_law_1071 YX7_about lL_150 rfl ⟨_, rfl, rfl⟩ rfl (Nat.le_of_ble_eq_true rfl) (Nat.le_of_ble_eq_true rfl) rfl (hp _ (fun I2 R2 L2 h2 => ?_))
  exact go_icmp_eq 1079 dL_law_1074 (by decide) (fun _ => next I2 R2 L2 h2) (fun c => absurd rfl c)
