section SCR
variable {κ : Kx} {cc : ByteArray} {own : String} {nL : Nat} {ret : Option FieldType} {R : Room} {Q : State → Prop} {M : Mem} {pc : Nat} {f : List (Option Value)} {st : List Value}
/-- the script: L ints at b, outside the world -/
def Scr (κ : Kx) (b L : Nat) (xs : Nat → Int32) : Prop := va_X b L xs κ.s κ.s.heap ∧ b < κ.s.heap.size ∧ ¬ Ax κ.G b ∧ L ≤ 448
theorem r_sld {b L n : Nat} {xs : Nat → Int32} (hX : Scr κ b L xs) (hn : n < L) (hd : decode cc pc = .ok (.iaload, 1)) (k : V κ cc own nL ret R Q M (pc + 1) f (.int (xs n) :: st)) : V κ cc own nL ret R Q M pc f (.int (nI n) :: .ref b :: st) := fun cx H locs ls hP hS hl => by
  obtain ⟨h1, h2, h3, h4⟩ := hX
  refine va_sld cx.1 cx.2.1 h1 h2 h3 hS (vp_in_nI hn (by omega)) hd ?_
  rw [nI_clamp (by omega)]
  exact k cx H locs ls hP hS hl
theorem r_scln {b L : Nat} {xs : Nat → Int32} (hX : Scr κ b L xs) (hd : decode cc pc = .ok (.arraylength, 1)) (k : V κ cc own nL ret R Q M (pc + 1) f (.int (nI L) :: st)) : V κ cc own nL ret R Q M pc f (.ref b :: st) := fun cx H locs ls hP hS hl =>
  va_slen cx.1 cx.2.1 hX.1 hX.2.1 hX.2.2.1 hS hd (k cx H locs ls hP hS hl)
end SCR
theorem seven {L i : Nat} (hL : L ≤ 448) (hi : i ≤ 460) (h : ¬ nI L - nI 7 < nI i) : i + 7 ≤ L := by
  by_cases h7 : 7 ≤ L
  · rw [pk_sub h7] at h
    have : ¬ L - 7 < i := fun z => h (nI_lt z (by omega))
    omega
  · have h1 : nI L - nI 7 < 0 := (by decide : ∀ L : Nat, L < 7 → nI L - nI 7 < 0) L (by omega)
    have h2 : (0 : Int32) ≤ nI i := Int32.not_lt.mp (nI_pos (by omega))
    exact absurd (Int32.lt_of_lt_of_le h1 h2) h
set_option maxHeartbeats 4000000 in
set_option maxRecDepth 100000 in
/-- row -/
theorem lc_0 {κ : Kx} {Q : State → Prop} {b L : Nat} {xs : Nat → Int32} (hX : Scr κ b L xs) (hcs : κ.k ≤ room_1.cells ∧ κ.n ≤ room_1.slots) {i : Nat} (hi : i + 7 ≤ L) {M : Mem} (hI : Inv M) (hk : ∀ M2, Inv M2 → V κ cL_law RL 4 ret room_1 Q M2 1572 [some (.ref b), some (.ref (gA κ.G 14)), some (.ref (gA κ.G 0)), some (.int (nI i))] []) : V κ cL_law RL 4 ret room_1 Q M 220 [some (.ref b), some (.ref (gA κ.G 14)), some (.ref (gA κ.G 0)), some (.int (nI i))] [] := by
  have hL := hX.2.2.2
  refine r_aload_n (pc := 220) dL_law_220 rfl ?_
  refine r_aload_n (pc := 221) dL_law_221 rfl ?_
  refine r_iload_n (pc := 222) dL_law_222 rfl ?_
  refine r_iconst (v := nI 1) (pc := 223) dL_law_223 (by decide) ?_
  refine r_iaddN (pc := 224) dL_law_224 ?_
  refine r_sld hX (by omega) (pc := 225) dL_law_225 ?_
  refine r_aload_n (pc := 226) dL_law_226 rfl ?_
  refine r_iload_n (pc := 227) dL_law_227 rfl ?_
  refine r_iconst (v := nI 2) (pc := 228) dL_law_228 (by decide) ?_
  refine r_iaddN (pc := 229) dL_law_229 ?_
  refine r_sld hX (by omega) (pc := 230) dL_law_230 ?_
  refine r_aload_n (pc := 231) dL_law_231 rfl ?_
  refine r_iload_n (pc := 232) dL_law_232 rfl ?_
  refine r_iconst (v := nI 3) (pc := 233) dL_law_233 (by decide) ?_
  refine r_iaddN (pc := 234) dL_law_234 ?_
  refine r_sld hX (by omega) (pc := 235) dL_law_235 ?_
  obtain ⟨P5, hC5, h5⟩ := s_row κ.l κ.G M (xs (i + 1)) (xs (i + 2)) (xs (i + 3)) hI
  refine iv_L_13 hC5 (pc := 236) dL_law_236 rfl ⟨Nat.le_of_ble_eq_true rfl, Nat.le_of_ble_eq_true rfl⟩ (Nat.le_of_ble_eq_true rfl) hcs (fun v M1 hp => ?_)
  obtain ⟨r, rfl, P6, hC6, h6⟩ := h5 v M1 hp
  show V κ cL_law RL 4 ret room_1 Q M1 239 [some (.ref b), some (.ref (gA κ.G 14)), some (.ref (gA κ.G 0)), some (.int (nI i))] [.int r]
  refine r_aload_n (pc := 239) dL_law_239 rfl ?_
  refine r_aload_n (pc := 240) dL_law_240 rfl ?_
  refine r_iload_n (pc := 241) dL_law_241 rfl ?_
  refine r_iconst (v := nI 1) (pc := 242) dL_law_242 (by decide) ?_
  refine r_iaddN (pc := 243) dL_law_243 ?_
  refine r_sld hX (by omega) (pc := 244) dL_law_244 ?_
  refine r_aload_n (pc := 245) dL_law_245 rfl ?_
  refine r_iload_n (pc := 246) dL_law_246 rfl ?_
  refine r_iconst (v := nI 2) (pc := 247) dL_law_247 (by decide) ?_
  refine r_iaddN (pc := 248) dL_law_248 ?_
  refine r_sld hX (by omega) (pc := 249) dL_law_249 ?_
  refine r_aload_n (pc := 250) dL_law_250 rfl ?_
  refine r_iload_n (pc := 251) dL_law_251 rfl ?_
  refine r_iconst (v := nI 3) (pc := 252) dL_law_252 (by decide) ?_
  refine r_iaddN (pc := 253) dL_law_253 ?_
  refine r_sld hX (by omega) (pc := 254) dL_law_254 ?_
  refine iv_L_17 hC6 (pc := 255) dL_law_255 rfl ⟨Nat.le_of_ble_eq_true rfl, Nat.le_of_ble_eq_true rfl⟩ (Nat.le_of_ble_eq_true rfl) hcs (fun v2 M2 hp2 => ?_)
  obtain ⟨rfl, hI2⟩ := h6 v2 M2 hp2
  show V κ cL_law RL 4 ret room_1 Q M2 258 [some (.ref b), some (.ref (gA κ.G 14)), some (.ref (gA κ.G 0)), some (.int (nI i))] [.int r, .int r]
  exact r_icmp_eq (tgt := 1572) (pc := 258) dL_law_258 (by decide) (fun _ => hk M2 hI2) (fun h => absurd rfl h)
set_option maxHeartbeats 4000000 in
set_option maxRecDepth 100000 in
/-- set -/
theorem lc_1 {κ : Kx} {Q : State → Prop} {b L : Nat} {xs : Nat → Int32} (hX : Scr κ b L xs) (hcs : κ.k ≤ room_1.cells ∧ κ.n ≤ room_1.slots) {i : Nat} (hi : i + 7 ≤ L) {M : Mem} (hI : Inv M) (hk : ∀ M2, Inv M2 → V κ cL_law RL 4 ret room_1 Q M2 1572 [some (.ref b), some (.ref (gA κ.G 14)), some (.ref (gA κ.G 0)), some (.int (nI i))] []) : V κ cL_law RL 4 ret room_1 Q M 263 [some (.ref b), some (.ref (gA κ.G 14)), some (.ref (gA κ.G 0)), some (.int (nI i))] [] := by
  have hL := hX.2.2.2
  refine r_aload_n (pc := 263) dL_law_263 rfl ?_
  refine r_aload_n (pc := 264) dL_law_264 rfl ?_
  refine r_iload_n (pc := 265) dL_law_265 rfl ?_
  refine r_iconst (v := nI 1) (pc := 266) dL_law_266 (by decide) ?_
  refine r_iaddN (pc := 267) dL_law_267 ?_
  refine r_sld hX (by omega) (pc := 268) dL_law_268 ?_
  refine r_aload_n (pc := 269) dL_law_269 rfl ?_
  refine r_iload_n (pc := 270) dL_law_270 rfl ?_
  refine r_iconst (v := nI 2) (pc := 271) dL_law_271 (by decide) ?_
  refine r_iaddN (pc := 272) dL_law_272 ?_
  refine r_sld hX (by omega) (pc := 273) dL_law_273 ?_
  refine r_aload_n (pc := 274) dL_law_274 rfl ?_
  refine r_iload_n (pc := 275) dL_law_275 rfl ?_
  refine r_iconst (v := nI 3) (pc := 276) dL_law_276 (by decide) ?_
  refine r_iaddN (pc := 277) dL_law_277 ?_
  refine r_sld hX (by omega) (pc := 278) dL_law_278 ?_
  obtain ⟨P5, hC5, h5⟩ := s_set κ.l κ.G M (xs (i + 1)) (xs (i + 2)) (xs (i + 3)) hI
  refine iv_L_18 hC5 (pc := 279) dL_law_279 rfl ⟨Nat.le_of_ble_eq_true rfl, Nat.le_of_ble_eq_true rfl⟩ (Nat.le_of_ble_eq_true rfl) hcs (fun v M1 hp => ?_)
  obtain ⟨r, rfl, P6, hC6, h6⟩ := h5 v M1 hp
  show V κ cL_law RL 4 ret room_1 Q M1 282 [some (.ref b), some (.ref (gA κ.G 14)), some (.ref (gA κ.G 0)), some (.int (nI i))] [.int r]
  refine r_aload_n (pc := 282) dL_law_282 rfl ?_
  refine r_aload_n (pc := 283) dL_law_283 rfl ?_
  refine r_iload_n (pc := 284) dL_law_284 rfl ?_
  refine r_iconst (v := nI 1) (pc := 285) dL_law_285 (by decide) ?_
  refine r_iaddN (pc := 286) dL_law_286 ?_
  refine r_sld hX (by omega) (pc := 287) dL_law_287 ?_
  refine r_aload_n (pc := 288) dL_law_288 rfl ?_
  refine r_iload_n (pc := 289) dL_law_289 rfl ?_
  refine r_iconst (v := nI 2) (pc := 290) dL_law_290 (by decide) ?_
  refine r_iaddN (pc := 291) dL_law_291 ?_
  refine r_sld hX (by omega) (pc := 292) dL_law_292 ?_
  refine r_aload_n (pc := 293) dL_law_293 rfl ?_
  refine r_iload_n (pc := 294) dL_law_294 rfl ?_
  refine r_iconst (v := nI 3) (pc := 295) dL_law_295 (by decide) ?_
  refine r_iaddN (pc := 296) dL_law_296 ?_
  refine r_sld hX (by omega) (pc := 297) dL_law_297 ?_
  refine iv_L_21 hC6 (pc := 298) dL_law_298 rfl ⟨Nat.le_of_ble_eq_true rfl, Nat.le_of_ble_eq_true rfl⟩ (Nat.le_of_ble_eq_true rfl) hcs (fun v2 M2 hp2 => ?_)
  obtain ⟨rfl, hI2⟩ := h6 v2 M2 hp2
  show V κ cL_law RL 4 ret room_1 Q M2 301 [some (.ref b), some (.ref (gA κ.G 14)), some (.ref (gA κ.G 0)), some (.int (nI i))] [.int r, .int r]
  exact r_icmp_eq (tgt := 1572) (pc := 301) dL_law_301 (by decide) (fun _ => hk M2 hI2) (fun h => absurd rfl h)
set_option maxHeartbeats 4000000 in
set_option maxRecDepth 100000 in
/-- copy -/
theorem lc_2 {κ : Kx} {Q : State → Prop} {b L : Nat} {xs : Nat → Int32} (hX : Scr κ b L xs) (hcs : κ.k ≤ room_1.cells ∧ κ.n ≤ room_1.slots) {i : Nat} (hi : i + 7 ≤ L) {M : Mem} (hI : Inv M) (hk : ∀ M2, Inv M2 → V κ cL_law RL 4 ret room_1 Q M2 1572 [some (.ref b), some (.ref (gA κ.G 14)), some (.ref (gA κ.G 0)), some (.int (nI i))] []) : V κ cL_law RL 4 ret room_1 Q M 306 [some (.ref b), some (.ref (gA κ.G 14)), some (.ref (gA κ.G 0)), some (.int (nI i))] [] := by
  have hL := hX.2.2.2
  refine r_aload_n (pc := 306) dL_law_306 rfl ?_
  refine r_aload_n (pc := 307) dL_law_307 rfl ?_
  refine r_iload_n (pc := 308) dL_law_308 rfl ?_
  refine r_iconst (v := nI 1) (pc := 309) dL_law_309 (by decide) ?_
  refine r_iaddN (pc := 310) dL_law_310 ?_
  refine r_sld hX (by omega) (pc := 311) dL_law_311 ?_
  refine r_aload_n (pc := 312) dL_law_312 rfl ?_
  refine r_iload_n (pc := 313) dL_law_313 rfl ?_
  refine r_iconst (v := nI 2) (pc := 314) dL_law_314 (by decide) ?_
  refine r_iaddN (pc := 315) dL_law_315 ?_
  refine r_sld hX (by omega) (pc := 316) dL_law_316 ?_
  refine r_aload_n (pc := 317) dL_law_317 rfl ?_
  refine r_iload_n (pc := 318) dL_law_318 rfl ?_
  refine r_iconst (v := nI 3) (pc := 319) dL_law_319 (by decide) ?_
  refine r_iaddN (pc := 320) dL_law_320 ?_
  refine r_sld hX (by omega) (pc := 321) dL_law_321 ?_
  refine r_aload_n (pc := 322) dL_law_322 rfl ?_
  refine r_iload_n (pc := 323) dL_law_323 rfl ?_
  refine r_iconst (v := nI 4) (pc := 324) dL_law_324 (by decide) ?_
  refine r_iaddN (pc := 325) dL_law_325 ?_
  refine r_sld hX (by omega) (pc := 326) dL_law_326 ?_
  refine r_aload_n (pc := 327) dL_law_327 rfl ?_
  refine r_iload_n (pc := 328) dL_law_328 rfl ?_
  refine r_iconst (v := nI 5) (pc := 329) dL_law_329 (by decide) ?_
  refine r_iaddN (pc := 330) dL_law_330 ?_
  refine r_sld hX (by omega) (pc := 331) dL_law_331 ?_
  obtain ⟨P5, hC5, h5⟩ := s_copy κ.l κ.G M (xs (i + 1)) (xs (i + 2)) (xs (i + 3)) (xs (i + 4)) (xs (i + 5)) hI
  refine iv_L_22 hC5 (pc := 332) dL_law_332 rfl ⟨Nat.le_of_ble_eq_true rfl, Nat.le_of_ble_eq_true rfl⟩ (Nat.le_of_ble_eq_true rfl) hcs (fun v M1 hp => ?_)
  obtain ⟨r, rfl, P6, hC6, h6⟩ := h5 v M1 hp
  show V κ cL_law RL 4 ret room_1 Q M1 335 [some (.ref b), some (.ref (gA κ.G 14)), some (.ref (gA κ.G 0)), some (.int (nI i))] [.int r]
  refine r_aload_n (pc := 335) dL_law_335 rfl ?_
  refine r_aload_n (pc := 336) dL_law_336 rfl ?_
  refine r_iload_n (pc := 337) dL_law_337 rfl ?_
  refine r_iconst (v := nI 1) (pc := 338) dL_law_338 (by decide) ?_
  refine r_iaddN (pc := 339) dL_law_339 ?_
  refine r_sld hX (by omega) (pc := 340) dL_law_340 ?_
  refine r_aload_n (pc := 341) dL_law_341 rfl ?_
  refine r_iload_n (pc := 342) dL_law_342 rfl ?_
  refine r_iconst (v := nI 2) (pc := 343) dL_law_343 (by decide) ?_
  refine r_iaddN (pc := 344) dL_law_344 ?_
  refine r_sld hX (by omega) (pc := 345) dL_law_345 ?_
  refine r_aload_n (pc := 346) dL_law_346 rfl ?_
  refine r_iload_n (pc := 347) dL_law_347 rfl ?_
  refine r_iconst (v := nI 3) (pc := 348) dL_law_348 (by decide) ?_
  refine r_iaddN (pc := 349) dL_law_349 ?_
  refine r_sld hX (by omega) (pc := 350) dL_law_350 ?_
  refine r_aload_n (pc := 351) dL_law_351 rfl ?_
  refine r_iload_n (pc := 352) dL_law_352 rfl ?_
  refine r_iconst (v := nI 4) (pc := 353) dL_law_353 (by decide) ?_
  refine r_iaddN (pc := 354) dL_law_354 ?_
  refine r_sld hX (by omega) (pc := 355) dL_law_355 ?_
  refine r_aload_n (pc := 356) dL_law_356 rfl ?_
  refine r_iload_n (pc := 357) dL_law_357 rfl ?_
  refine r_iconst (v := nI 5) (pc := 358) dL_law_358 (by decide) ?_
  refine r_iaddN (pc := 359) dL_law_359 ?_
  refine r_sld hX (by omega) (pc := 360) dL_law_360 ?_
  refine iv_L_26 hC6 (pc := 361) dL_law_361 rfl ⟨Nat.le_of_ble_eq_true rfl, Nat.le_of_ble_eq_true rfl⟩ (Nat.le_of_ble_eq_true rfl) hcs (fun v2 M2 hp2 => ?_)
  obtain ⟨rfl, hI2⟩ := h6 v2 M2 hp2
  show V κ cL_law RL 4 ret room_1 Q M2 364 [some (.ref b), some (.ref (gA κ.G 14)), some (.ref (gA κ.G 0)), some (.int (nI i))] [.int r, .int r]
  exact r_icmp_eq (tgt := 1572) (pc := 364) dL_law_364 (by decide) (fun _ => hk M2 hI2) (fun h => absurd rfl h)
set_option maxHeartbeats 4000000 in
set_option maxRecDepth 100000 in
/-- drop -/
theorem lc_3 {κ : Kx} {Q : State → Prop} {b L : Nat} {xs : Nat → Int32} (hX : Scr κ b L xs) (hcs : κ.k ≤ room_1.cells ∧ κ.n ≤ room_1.slots) {i : Nat} (hi : i + 7 ≤ L) {M : Mem} (hI : Inv M) (hk : ∀ M2, Inv M2 → V κ cL_law RL 4 ret room_1 Q M2 1572 [some (.ref b), some (.ref (gA κ.G 14)), some (.ref (gA κ.G 0)), some (.int (nI i))] []) : V κ cL_law RL 4 ret room_1 Q M 369 [some (.ref b), some (.ref (gA κ.G 14)), some (.ref (gA κ.G 0)), some (.int (nI i))] [] := by
  have hL := hX.2.2.2
  refine r_aload_n (pc := 369) dL_law_369 rfl ?_
  refine r_aload_n (pc := 370) dL_law_370 rfl ?_
  refine r_iload_n (pc := 371) dL_law_371 rfl ?_
  refine r_iconst (v := nI 1) (pc := 372) dL_law_372 (by decide) ?_
  refine r_iaddN (pc := 373) dL_law_373 ?_
  refine r_sld hX (by omega) (pc := 374) dL_law_374 ?_
  obtain ⟨P5, hC5, h5⟩ := s_drop κ.l κ.G M (xs (i + 1)) hI
  refine iv_L_27 hC5 (pc := 375) dL_law_375 rfl ⟨Nat.le_of_ble_eq_true rfl, Nat.le_of_ble_eq_true rfl⟩ (Nat.le_of_ble_eq_true rfl) hcs (fun v M1 hp => ?_)
  obtain ⟨r, rfl, P6, hC6, h6⟩ := h5 v M1 hp
  show V κ cL_law RL 4 ret room_1 Q M1 378 [some (.ref b), some (.ref (gA κ.G 14)), some (.ref (gA κ.G 0)), some (.int (nI i))] [.int r]
  refine r_aload_n (pc := 378) dL_law_378 rfl ?_
  refine r_aload_n (pc := 379) dL_law_379 rfl ?_
  refine r_iload_n (pc := 380) dL_law_380 rfl ?_
  refine r_iconst (v := nI 1) (pc := 381) dL_law_381 (by decide) ?_
  refine r_iaddN (pc := 382) dL_law_382 ?_
  refine r_sld hX (by omega) (pc := 383) dL_law_383 ?_
  refine iv_L_31 hC6 (pc := 384) dL_law_384 rfl ⟨Nat.le_of_ble_eq_true rfl, Nat.le_of_ble_eq_true rfl⟩ (Nat.le_of_ble_eq_true rfl) hcs (fun v2 M2 hp2 => ?_)
  obtain ⟨rfl, hI2⟩ := h6 v2 M2 hp2
  show V κ cL_law RL 4 ret room_1 Q M2 387 [some (.ref b), some (.ref (gA κ.G 14)), some (.ref (gA κ.G 0)), some (.int (nI i))] [.int r, .int r]
  exact r_icmp_eq (tgt := 1572) (pc := 387) dL_law_387 (by decide) (fun _ => hk M2 hI2) (fun h => absurd rfl h)
set_option maxHeartbeats 4000000 in
set_option maxRecDepth 100000 in
/-- feed -/
theorem lc_4 {κ : Kx} {Q : State → Prop} {b L : Nat} {xs : Nat → Int32} (hX : Scr κ b L xs) (hcs : κ.k ≤ room_1.cells ∧ κ.n ≤ room_1.slots) {i : Nat} (hi : i + 7 ≤ L) {M : Mem} (hI : Inv M) (hk : ∀ M2, Inv M2 → V κ cL_law RL 4 ret room_1 Q M2 1572 [some (.ref b), some (.ref (gA κ.G 14)), some (.ref (gA κ.G 0)), some (.int (nI i))] []) : V κ cL_law RL 4 ret room_1 Q M 392 [some (.ref b), some (.ref (gA κ.G 14)), some (.ref (gA κ.G 0)), some (.int (nI i))] [] := by
  have hL := hX.2.2.2
  refine r_aload_n (pc := 392) dL_law_392 rfl ?_
  refine r_aload_n (pc := 393) dL_law_393 rfl ?_
  refine r_iload_n (pc := 394) dL_law_394 rfl ?_
  refine r_iconst (v := nI 1) (pc := 395) dL_law_395 (by decide) ?_
  refine r_iaddN (pc := 396) dL_law_396 ?_
  refine r_sld hX (by omega) (pc := 397) dL_law_397 ?_
  obtain ⟨P5, hC5, h5⟩ := s_feed κ.l κ.G M (xs (i + 1)) hI
  refine iv_L_32 hC5 (pc := 398) dL_law_398 rfl ⟨Nat.le_of_ble_eq_true rfl, Nat.le_of_ble_eq_true rfl⟩ (Nat.le_of_ble_eq_true rfl) hcs (fun v M1 hp => ?_)
  obtain ⟨r, rfl, P6, hC6, h6⟩ := h5 v M1 hp
  show V κ cL_law RL 4 ret room_1 Q M1 401 [some (.ref b), some (.ref (gA κ.G 14)), some (.ref (gA κ.G 0)), some (.int (nI i))] [.int r]
  refine r_aload_n (pc := 401) dL_law_401 rfl ?_
  refine r_aload_n (pc := 402) dL_law_402 rfl ?_
  refine r_iload_n (pc := 403) dL_law_403 rfl ?_
  refine r_iconst (v := nI 1) (pc := 404) dL_law_404 (by decide) ?_
  refine r_iaddN (pc := 405) dL_law_405 ?_
  refine r_sld hX (by omega) (pc := 406) dL_law_406 ?_
  refine iv_L_35 hC6 (pc := 407) dL_law_407 rfl ⟨Nat.le_of_ble_eq_true rfl, Nat.le_of_ble_eq_true rfl⟩ (Nat.le_of_ble_eq_true rfl) hcs (fun v2 M2 hp2 => ?_)
  obtain ⟨rfl, hI2⟩ := h6 v2 M2 hp2
  show V κ cL_law RL 4 ret room_1 Q M2 410 [some (.ref b), some (.ref (gA κ.G 14)), some (.ref (gA κ.G 0)), some (.int (nI i))] [.int r, .int r]
  exact r_icmp_eq (tgt := 1572) (pc := 410) dL_law_410 (by decide) (fun _ => hk M2 hI2) (fun h => absurd rfl h)
set_option maxHeartbeats 4000000 in
set_option maxRecDepth 100000 in
/-- ministry -/
theorem lc_5 {κ : Kx} {Q : State → Prop} {b L : Nat} {xs : Nat → Int32} (hX : Scr κ b L xs) (hcs : κ.k ≤ room_1.cells ∧ κ.n ≤ room_1.slots) {i : Nat} (hi : i + 7 ≤ L) {M : Mem} (hI : Inv M) (hk : ∀ M2, Inv M2 → V κ cL_law RL 4 ret room_1 Q M2 1572 [some (.ref b), some (.ref (gA κ.G 14)), some (.ref (gA κ.G 0)), some (.int (nI i))] []) : V κ cL_law RL 4 ret room_1 Q M 415 [some (.ref b), some (.ref (gA κ.G 14)), some (.ref (gA κ.G 0)), some (.int (nI i))] [] := by
  have hL := hX.2.2.2
  refine r_aload_n (pc := 415) dL_law_415 rfl ?_
  obtain ⟨P5, hC5, h5⟩ := s_ministry κ.l κ.G M hI
  refine iv_L_36 hC5 (pc := 416) dL_law_416 rfl ⟨Nat.le_of_ble_eq_true rfl, Nat.le_of_ble_eq_true rfl⟩ (Nat.le_of_ble_eq_true rfl) hcs (fun v M1 hp => ?_)
  obtain ⟨r, rfl, P6, hC6, h6⟩ := h5 v M1 hp
  show V κ cL_law RL 4 ret room_1 Q M1 419 [some (.ref b), some (.ref (gA κ.G 14)), some (.ref (gA κ.G 0)), some (.int (nI i))] [.int r]
  refine r_aload_n (pc := 419) dL_law_419 rfl ?_
  refine iv_L_40 hC6 (pc := 420) dL_law_420 rfl ⟨Nat.le_of_ble_eq_true rfl, Nat.le_of_ble_eq_true rfl⟩ (Nat.le_of_ble_eq_true rfl) hcs (fun v2 M2 hp2 => ?_)
  obtain ⟨rfl, hI2⟩ := h6 v2 M2 hp2
  show V κ cL_law RL 4 ret room_1 Q M2 423 [some (.ref b), some (.ref (gA κ.G 14)), some (.ref (gA κ.G 0)), some (.int (nI i))] [.int r, .int r]
  exact r_icmp_eq (tgt := 1572) (pc := 423) dL_law_423 (by decide) (fun _ => hk M2 hI2) (fun h => absurd rfl h)
set_option maxHeartbeats 4000000 in
set_option maxRecDepth 100000 in
/-- fault -/
theorem lc_6 {κ : Kx} {Q : State → Prop} {b L : Nat} {xs : Nat → Int32} (hX : Scr κ b L xs) (hcs : κ.k ≤ room_1.cells ∧ κ.n ≤ room_1.slots) {i : Nat} (hi : i + 7 ≤ L) {M : Mem} (hI : Inv M) (hk : ∀ M2, Inv M2 → V κ cL_law RL 4 ret room_1 Q M2 1572 [some (.ref b), some (.ref (gA κ.G 14)), some (.ref (gA κ.G 0)), some (.int (nI i))] []) : V κ cL_law RL 4 ret room_1 Q M 428 [some (.ref b), some (.ref (gA κ.G 14)), some (.ref (gA κ.G 0)), some (.int (nI i))] [] := by
  have hL := hX.2.2.2
  refine r_aload_n (pc := 428) dL_law_428 rfl ?_
  obtain ⟨P5, hC5, h5⟩ := s_fault κ.l κ.G M hI
  refine iv_L_41 hC5 (pc := 429) dL_law_429 rfl ⟨Nat.le_of_ble_eq_true rfl, Nat.le_of_ble_eq_true rfl⟩ (Nat.le_of_ble_eq_true rfl) hcs (fun v M1 hp => ?_)
  obtain ⟨r, rfl, P6, hC6, h6⟩ := h5 v M1 hp
  show V κ cL_law RL 4 ret room_1 Q M1 432 [some (.ref b), some (.ref (gA κ.G 14)), some (.ref (gA κ.G 0)), some (.int (nI i))] [.int r]
  refine r_aload_n (pc := 432) dL_law_432 rfl ?_
  refine iv_L_44 hC6 (pc := 433) dL_law_433 rfl ⟨Nat.le_of_ble_eq_true rfl, Nat.le_of_ble_eq_true rfl⟩ (Nat.le_of_ble_eq_true rfl) hcs (fun v2 M2 hp2 => ?_)
  obtain ⟨rfl, hI2⟩ := h6 v2 M2 hp2
  show V κ cL_law RL 4 ret room_1 Q M2 436 [some (.ref b), some (.ref (gA κ.G 14)), some (.ref (gA κ.G 0)), some (.int (nI i))] [.int r, .int r]
  exact r_icmp_eq (tgt := 1572) (pc := 436) dL_law_436 (by decide) (fun _ => hk M2 hI2) (fun h => absurd rfl h)
set_option maxHeartbeats 4000000 in
set_option maxRecDepth 100000 in
/-- undo -/
theorem lc_7 {κ : Kx} {Q : State → Prop} {b L : Nat} {xs : Nat → Int32} (hX : Scr κ b L xs) (hcs : κ.k ≤ room_1.cells ∧ κ.n ≤ room_1.slots) {i : Nat} (hi : i + 7 ≤ L) {M : Mem} (hI : Inv M) (hk : ∀ M2, Inv M2 → V κ cL_law RL 4 ret room_1 Q M2 1572 [some (.ref b), some (.ref (gA κ.G 14)), some (.ref (gA κ.G 0)), some (.int (nI i))] []) : V κ cL_law RL 4 ret room_1 Q M 441 [some (.ref b), some (.ref (gA κ.G 14)), some (.ref (gA κ.G 0)), some (.int (nI i))] [] := by
  have hL := hX.2.2.2
  refine r_aload_n (pc := 441) dL_law_441 rfl ?_
  obtain ⟨P5, hC5, h5⟩ := s_undo κ.l κ.G M hI
  refine iv_L_45 hC5 (pc := 442) dL_law_442 rfl ⟨Nat.le_of_ble_eq_true rfl, Nat.le_of_ble_eq_true rfl⟩ (Nat.le_of_ble_eq_true rfl) hcs (fun v M1 hp => ?_)
  obtain ⟨r, rfl, P6, hC6, h6⟩ := h5 v M1 hp
  show V κ cL_law RL 4 ret room_1 Q M1 445 [some (.ref b), some (.ref (gA κ.G 14)), some (.ref (gA κ.G 0)), some (.int (nI i))] [.int r]
  refine r_aload_n (pc := 445) dL_law_445 rfl ?_
  refine iv_L_48 hC6 (pc := 446) dL_law_446 rfl ⟨Nat.le_of_ble_eq_true rfl, Nat.le_of_ble_eq_true rfl⟩ (Nat.le_of_ble_eq_true rfl) hcs (fun v2 M2 hp2 => ?_)
  obtain ⟨rfl, hI2⟩ := h6 v2 M2 hp2
  show V κ cL_law RL 4 ret room_1 Q M2 449 [some (.ref b), some (.ref (gA κ.G 14)), some (.ref (gA κ.G 0)), some (.int (nI i))] [.int r, .int r]
  exact r_icmp_eq (tgt := 1572) (pc := 449) dL_law_449 (by decide) (fun _ => hk M2 hI2) (fun h => absurd rfl h)
set_option maxHeartbeats 4000000 in
set_option maxRecDepth 100000 in
/-- nights -/
theorem lc_8 {κ : Kx} {Q : State → Prop} {b L : Nat} {xs : Nat → Int32} (hX : Scr κ b L xs) (hcs : κ.k ≤ room_1.cells ∧ κ.n ≤ room_1.slots) {i : Nat} (hi : i + 7 ≤ L) {M : Mem} (hI : Inv M) (hk : ∀ M2, Inv M2 → V κ cL_law RL 4 ret room_1 Q M2 1572 [some (.ref b), some (.ref (gA κ.G 14)), some (.ref (gA κ.G 0)), some (.int (nI i))] []) : V κ cL_law RL 4 ret room_1 Q M 454 [some (.ref b), some (.ref (gA κ.G 14)), some (.ref (gA κ.G 0)), some (.int (nI i))] [] := by
  have hL := hX.2.2.2
  refine r_aload_n (pc := 454) dL_law_454 rfl ?_
  refine r_aload_n (pc := 455) dL_law_455 rfl ?_
  refine r_iload_n (pc := 456) dL_law_456 rfl ?_
  refine r_iconst (v := nI 1) (pc := 457) dL_law_457 (by decide) ?_
  refine r_iaddN (pc := 458) dL_law_458 ?_
  refine r_sld hX (by omega) (pc := 459) dL_law_459 ?_
  obtain ⟨P5, hC5, h5⟩ := s_nights κ.l κ.G M (xs (i + 1)) hI
  refine iv_L_49 hC5 (pc := 460) dL_law_460 rfl ⟨Nat.le_of_ble_eq_true rfl, Nat.le_of_ble_eq_true rfl⟩ (Nat.le_of_ble_eq_true rfl) hcs (fun v M1 hp => ?_)
  obtain ⟨r, rfl, P6, hC6, h6⟩ := h5 v M1 hp
  show V κ cL_law RL 4 ret room_1 Q M1 463 [some (.ref b), some (.ref (gA κ.G 14)), some (.ref (gA κ.G 0)), some (.int (nI i))] [.int r]
  refine r_aload_n (pc := 463) dL_law_463 rfl ?_
  refine r_aload_n (pc := 464) dL_law_464 rfl ?_
  refine r_iload_n (pc := 465) dL_law_465 rfl ?_
  refine r_iconst (v := nI 1) (pc := 466) dL_law_466 (by decide) ?_
  refine r_iaddN (pc := 467) dL_law_467 ?_
  refine r_sld hX (by omega) (pc := 468) dL_law_468 ?_
  refine iv_L_52 hC6 (pc := 469) dL_law_469 rfl ⟨Nat.le_of_ble_eq_true rfl, Nat.le_of_ble_eq_true rfl⟩ (Nat.le_of_ble_eq_true rfl) hcs (fun v2 M2 hp2 => ?_)
  obtain ⟨rfl, hI2⟩ := h6 v2 M2 hp2
  show V κ cL_law RL 4 ret room_1 Q M2 472 [some (.ref b), some (.ref (gA κ.G 14)), some (.ref (gA κ.G 0)), some (.int (nI i))] [.int r, .int r]
  exact r_icmp_eq (tgt := 1572) (pc := 472) dL_law_472 (by decide) (fun _ => hk M2 hI2) (fun h => absurd rfl h)
set_option maxHeartbeats 4000000 in
set_option maxRecDepth 100000 in
/-- cushions -/
theorem lc_9 {κ : Kx} {Q : State → Prop} {b L : Nat} {xs : Nat → Int32} (hX : Scr κ b L xs) (hcs : κ.k ≤ room_1.cells ∧ κ.n ≤ room_1.slots) {i : Nat} (hi : i + 7 ≤ L) {M : Mem} (hI : Inv M) (hk : ∀ M2, Inv M2 → V κ cL_law RL 4 ret room_1 Q M2 1572 [some (.ref b), some (.ref (gA κ.G 14)), some (.ref (gA κ.G 0)), some (.int (nI i))] []) : V κ cL_law RL 4 ret room_1 Q M 477 [some (.ref b), some (.ref (gA κ.G 14)), some (.ref (gA κ.G 0)), some (.int (nI i))] [] := by
  have hL := hX.2.2.2
  refine r_aload_n (pc := 477) dL_law_477 rfl ?_
  refine r_aload_n (pc := 478) dL_law_478 rfl ?_
  refine r_iload_n (pc := 479) dL_law_479 rfl ?_
  refine r_iconst (v := nI 1) (pc := 480) dL_law_480 (by decide) ?_
  refine r_iaddN (pc := 481) dL_law_481 ?_
  refine r_sld hX (by omega) (pc := 482) dL_law_482 ?_
  refine r_aload_n (pc := 483) dL_law_483 rfl ?_
  refine r_iload_n (pc := 484) dL_law_484 rfl ?_
  refine r_iconst (v := nI 2) (pc := 485) dL_law_485 (by decide) ?_
  refine r_iaddN (pc := 486) dL_law_486 ?_
  refine r_sld hX (by omega) (pc := 487) dL_law_487 ?_
  obtain ⟨P5, hC5, h5⟩ := s_cushions κ.l κ.G M (xs (i + 1)) (xs (i + 2)) hI
  refine iv_L_53 hC5 (pc := 488) dL_law_488 rfl ⟨Nat.le_of_ble_eq_true rfl, Nat.le_of_ble_eq_true rfl⟩ (Nat.le_of_ble_eq_true rfl) hcs (fun v M1 hp => ?_)
  obtain ⟨r, rfl, P6, hC6, h6⟩ := h5 v M1 hp
  show V κ cL_law RL 4 ret room_1 Q M1 491 [some (.ref b), some (.ref (gA κ.G 14)), some (.ref (gA κ.G 0)), some (.int (nI i))] [.int r]
  refine r_aload_n (pc := 491) dL_law_491 rfl ?_
  refine r_aload_n (pc := 492) dL_law_492 rfl ?_
  refine r_iload_n (pc := 493) dL_law_493 rfl ?_
  refine r_iconst (v := nI 1) (pc := 494) dL_law_494 (by decide) ?_
  refine r_iaddN (pc := 495) dL_law_495 ?_
  refine r_sld hX (by omega) (pc := 496) dL_law_496 ?_
  refine r_aload_n (pc := 497) dL_law_497 rfl ?_
  refine r_iload_n (pc := 498) dL_law_498 rfl ?_
  refine r_iconst (v := nI 2) (pc := 499) dL_law_499 (by decide) ?_
  refine r_iaddN (pc := 500) dL_law_500 ?_
  refine r_sld hX (by omega) (pc := 501) dL_law_501 ?_
  refine iv_L_57 hC6 (pc := 502) dL_law_502 rfl ⟨Nat.le_of_ble_eq_true rfl, Nat.le_of_ble_eq_true rfl⟩ (Nat.le_of_ble_eq_true rfl) hcs (fun v2 M2 hp2 => ?_)
  obtain ⟨rfl, hI2⟩ := h6 v2 M2 hp2
  show V κ cL_law RL 4 ret room_1 Q M2 505 [some (.ref b), some (.ref (gA κ.G 14)), some (.ref (gA κ.G 0)), some (.int (nI i))] [.int r, .int r]
  exact r_icmp_eq (tgt := 1572) (pc := 505) dL_law_505 (by decide) (fun _ => hk M2 hI2) (fun h => absurd rfl h)
set_option maxHeartbeats 4000000 in
set_option maxRecDepth 100000 in
/-- mend -/
theorem lc_10 {κ : Kx} {Q : State → Prop} {b L : Nat} {xs : Nat → Int32} (hX : Scr κ b L xs) (hcs : κ.k ≤ room_1.cells ∧ κ.n ≤ room_1.slots) {i : Nat} (hi : i + 7 ≤ L) {M : Mem} (hI : Inv M) (hk : ∀ M2, Inv M2 → V κ cL_law RL 4 ret room_1 Q M2 1572 [some (.ref b), some (.ref (gA κ.G 14)), some (.ref (gA κ.G 0)), some (.int (nI i))] []) : V κ cL_law RL 4 ret room_1 Q M 510 [some (.ref b), some (.ref (gA κ.G 14)), some (.ref (gA κ.G 0)), some (.int (nI i))] [] := by
  have hL := hX.2.2.2
  refine r_aload_n (pc := 510) dL_law_510 rfl ?_
  refine r_aload_n (pc := 511) dL_law_511 rfl ?_
  refine r_iload_n (pc := 512) dL_law_512 rfl ?_
  refine r_iconst (v := nI 1) (pc := 513) dL_law_513 (by decide) ?_
  refine r_iaddN (pc := 514) dL_law_514 ?_
  refine r_sld hX (by omega) (pc := 515) dL_law_515 ?_
  obtain ⟨P5, hC5, h5⟩ := s_mend κ.l κ.G M (xs (i + 1)) hI
  refine iv_L_58 hC5 (pc := 516) dL_law_516 rfl ⟨Nat.le_of_ble_eq_true rfl, Nat.le_of_ble_eq_true rfl⟩ (Nat.le_of_ble_eq_true rfl) hcs (fun v M1 hp => ?_)
  obtain ⟨r, rfl, P6, hC6, h6⟩ := h5 v M1 hp
  show V κ cL_law RL 4 ret room_1 Q M1 519 [some (.ref b), some (.ref (gA κ.G 14)), some (.ref (gA κ.G 0)), some (.int (nI i))] [.int r]
  refine r_aload_n (pc := 519) dL_law_519 rfl ?_
  refine r_aload_n (pc := 520) dL_law_520 rfl ?_
  refine r_iload_n (pc := 521) dL_law_521 rfl ?_
  refine r_iconst (v := nI 1) (pc := 522) dL_law_522 (by decide) ?_
  refine r_iaddN (pc := 523) dL_law_523 ?_
  refine r_sld hX (by omega) (pc := 524) dL_law_524 ?_
  refine iv_L_61 hC6 (pc := 525) dL_law_525 rfl ⟨Nat.le_of_ble_eq_true rfl, Nat.le_of_ble_eq_true rfl⟩ (Nat.le_of_ble_eq_true rfl) hcs (fun v2 M2 hp2 => ?_)
  obtain ⟨rfl, hI2⟩ := h6 v2 M2 hp2
  show V κ cL_law RL 4 ret room_1 Q M2 528 [some (.ref b), some (.ref (gA κ.G 14)), some (.ref (gA κ.G 0)), some (.int (nI i))] [.int r, .int r]
  exact r_icmp_eq (tgt := 1572) (pc := 528) dL_law_528 (by decide) (fun _ => hk M2 hI2) (fun h => absurd rfl h)
set_option maxHeartbeats 4000000 in
set_option maxRecDepth 100000 in
/-- watch -/
theorem lc_11 {κ : Kx} {Q : State → Prop} {b L : Nat} {xs : Nat → Int32} (hX : Scr κ b L xs) (hcs : κ.k ≤ room_1.cells ∧ κ.n ≤ room_1.slots) {i : Nat} (hi : i + 7 ≤ L) {M : Mem} (hI : Inv M) (hk : ∀ M2, Inv M2 → V κ cL_law RL 4 ret room_1 Q M2 1572 [some (.ref b), some (.ref (gA κ.G 14)), some (.ref (gA κ.G 0)), some (.int (nI i))] []) : V κ cL_law RL 4 ret room_1 Q M 533 [some (.ref b), some (.ref (gA κ.G 14)), some (.ref (gA κ.G 0)), some (.int (nI i))] [] := by
  have hL := hX.2.2.2
  refine r_aload_n (pc := 533) dL_law_533 rfl ?_
  refine r_aload_n (pc := 534) dL_law_534 rfl ?_
  refine r_iload_n (pc := 535) dL_law_535 rfl ?_
  refine r_iconst (v := nI 1) (pc := 536) dL_law_536 (by decide) ?_
  refine r_iaddN (pc := 537) dL_law_537 ?_
  refine r_sld hX (by omega) (pc := 538) dL_law_538 ?_
  refine r_aload_n (pc := 539) dL_law_539 rfl ?_
  refine r_iload_n (pc := 540) dL_law_540 rfl ?_
  refine r_iconst (v := nI 2) (pc := 541) dL_law_541 (by decide) ?_
  refine r_iaddN (pc := 542) dL_law_542 ?_
  refine r_sld hX (by omega) (pc := 543) dL_law_543 ?_
  obtain ⟨P5, hC5, h5⟩ := s_watch κ.l κ.G M (xs (i + 1)) (xs (i + 2)) hI
  refine iv_L_62 hC5 (pc := 544) dL_law_544 rfl ⟨Nat.le_of_ble_eq_true rfl, Nat.le_of_ble_eq_true rfl⟩ (Nat.le_of_ble_eq_true rfl) hcs (fun v M1 hp => ?_)
  obtain ⟨r, rfl, P6, hC6, h6⟩ := h5 v M1 hp
  show V κ cL_law RL 4 ret room_1 Q M1 547 [some (.ref b), some (.ref (gA κ.G 14)), some (.ref (gA κ.G 0)), some (.int (nI i))] [.int r]
  refine r_aload_n (pc := 547) dL_law_547 rfl ?_
  refine r_aload_n (pc := 548) dL_law_548 rfl ?_
  refine r_iload_n (pc := 549) dL_law_549 rfl ?_
  refine r_iconst (v := nI 1) (pc := 550) dL_law_550 (by decide) ?_
  refine r_iaddN (pc := 551) dL_law_551 ?_
  refine r_sld hX (by omega) (pc := 552) dL_law_552 ?_
  refine r_aload_n (pc := 553) dL_law_553 rfl ?_
  refine r_iload_n (pc := 554) dL_law_554 rfl ?_
  refine r_iconst (v := nI 2) (pc := 555) dL_law_555 (by decide) ?_
  refine r_iaddN (pc := 556) dL_law_556 ?_
  refine r_sld hX (by omega) (pc := 557) dL_law_557 ?_
  refine iv_L_65 hC6 (pc := 558) dL_law_558 rfl ⟨Nat.le_of_ble_eq_true rfl, Nat.le_of_ble_eq_true rfl⟩ (Nat.le_of_ble_eq_true rfl) hcs (fun v2 M2 hp2 => ?_)
  obtain ⟨rfl, hI2⟩ := h6 v2 M2 hp2
  show V κ cL_law RL 4 ret room_1 Q M2 561 [some (.ref b), some (.ref (gA κ.G 14)), some (.ref (gA κ.G 0)), some (.int (nI i))] [.int r, .int r]
  exact r_icmp_eq (tgt := 1572) (pc := 561) dL_law_561 (by decide) (fun _ => hk M2 hI2) (fun h => absurd rfl h)
set_option maxHeartbeats 4000000 in
set_option maxRecDepth 100000 in
/-- change -/
theorem lc_12 {κ : Kx} {Q : State → Prop} {b L : Nat} {xs : Nat → Int32} (hX : Scr κ b L xs) (hcs : κ.k ≤ room_1.cells ∧ κ.n ≤ room_1.slots) {i : Nat} (hi : i + 7 ≤ L) {M : Mem} (hI : Inv M) (hk : ∀ M2, Inv M2 → V κ cL_law RL 4 ret room_1 Q M2 1572 [some (.ref b), some (.ref (gA κ.G 14)), some (.ref (gA κ.G 0)), some (.int (nI i))] []) : V κ cL_law RL 4 ret room_1 Q M 566 [some (.ref b), some (.ref (gA κ.G 14)), some (.ref (gA κ.G 0)), some (.int (nI i))] [] := by
  have hL := hX.2.2.2
  refine r_aload_n (pc := 566) dL_law_566 rfl ?_
  refine r_aload_n (pc := 567) dL_law_567 rfl ?_
  refine r_iload_n (pc := 568) dL_law_568 rfl ?_
  refine r_iconst (v := nI 1) (pc := 569) dL_law_569 (by decide) ?_
  refine r_iaddN (pc := 570) dL_law_570 ?_
  refine r_sld hX (by omega) (pc := 571) dL_law_571 ?_
  refine r_aload_n (pc := 572) dL_law_572 rfl ?_
  refine r_iload_n (pc := 573) dL_law_573 rfl ?_
  refine r_iconst (v := nI 2) (pc := 574) dL_law_574 (by decide) ?_
  refine r_iaddN (pc := 575) dL_law_575 ?_
  refine r_sld hX (by omega) (pc := 576) dL_law_576 ?_
  obtain ⟨P5, hC5, h5⟩ := s_change κ.l κ.G M (xs (i + 1)) (xs (i + 2)) hI
  refine iv_L_66 hC5 (pc := 577) dL_law_577 rfl ⟨Nat.le_of_ble_eq_true rfl, Nat.le_of_ble_eq_true rfl⟩ (Nat.le_of_ble_eq_true rfl) hcs (fun v M1 hp => ?_)
  obtain ⟨r, rfl, P6, hC6, h6⟩ := h5 v M1 hp
  show V κ cL_law RL 4 ret room_1 Q M1 580 [some (.ref b), some (.ref (gA κ.G 14)), some (.ref (gA κ.G 0)), some (.int (nI i))] [.int r]
  refine r_aload_n (pc := 580) dL_law_580 rfl ?_
  refine r_aload_n (pc := 581) dL_law_581 rfl ?_
  refine r_iload_n (pc := 582) dL_law_582 rfl ?_
  refine r_iconst (v := nI 1) (pc := 583) dL_law_583 (by decide) ?_
  refine r_iaddN (pc := 584) dL_law_584 ?_
  refine r_sld hX (by omega) (pc := 585) dL_law_585 ?_
  refine r_aload_n (pc := 586) dL_law_586 rfl ?_
  refine r_iload_n (pc := 587) dL_law_587 rfl ?_
  refine r_iconst (v := nI 2) (pc := 588) dL_law_588 (by decide) ?_
  refine r_iaddN (pc := 589) dL_law_589 ?_
  refine r_sld hX (by omega) (pc := 590) dL_law_590 ?_
  refine iv_L_69 hC6 (pc := 591) dL_law_591 rfl ⟨Nat.le_of_ble_eq_true rfl, Nat.le_of_ble_eq_true rfl⟩ (Nat.le_of_ble_eq_true rfl) hcs (fun v2 M2 hp2 => ?_)
  obtain ⟨rfl, hI2⟩ := h6 v2 M2 hp2
  show V κ cL_law RL 4 ret room_1 Q M2 594 [some (.ref b), some (.ref (gA κ.G 14)), some (.ref (gA κ.G 0)), some (.int (nI i))] [.int r, .int r]
  exact r_icmp_eq (tgt := 1572) (pc := 594) dL_law_594 (by decide) (fun _ => hk M2 hI2) (fun h => absurd rfl h)
set_option maxHeartbeats 4000000 in
set_option maxRecDepth 100000 in
/-- saw -/
theorem lc_13 {κ : Kx} {Q : State → Prop} {b L : Nat} {xs : Nat → Int32} (hX : Scr κ b L xs) (hcs : κ.k ≤ room_1.cells ∧ κ.n ≤ room_1.slots) {i : Nat} (hi : i + 7 ≤ L) {M : Mem} (hI : Inv M) (hk : ∀ M2, Inv M2 → V κ cL_law RL 4 ret room_1 Q M2 1572 [some (.ref b), some (.ref (gA κ.G 14)), some (.ref (gA κ.G 0)), some (.int (nI i))] []) : V κ cL_law RL 4 ret room_1 Q M 599 [some (.ref b), some (.ref (gA κ.G 14)), some (.ref (gA κ.G 0)), some (.int (nI i))] [] := by
  have hL := hX.2.2.2
  refine r_aload_n (pc := 599) dL_law_599 rfl ?_
  refine r_aload_n (pc := 600) dL_law_600 rfl ?_
  refine r_iload_n (pc := 601) dL_law_601 rfl ?_
  refine r_iconst (v := nI 1) (pc := 602) dL_law_602 (by decide) ?_
  refine r_iaddN (pc := 603) dL_law_603 ?_
  refine r_sld hX (by omega) (pc := 604) dL_law_604 ?_
  refine r_aload_n (pc := 605) dL_law_605 rfl ?_
  refine r_iload_n (pc := 606) dL_law_606 rfl ?_
  refine r_iconst (v := nI 2) (pc := 607) dL_law_607 (by decide) ?_
  refine r_iaddN (pc := 608) dL_law_608 ?_
  refine r_sld hX (by omega) (pc := 609) dL_law_609 ?_
  obtain ⟨P5, hC5, h5⟩ := s_saw κ.l κ.G M (xs (i + 1)) (xs (i + 2)) hI
  refine iv_L_70 hC5 (pc := 610) dL_law_610 rfl ⟨Nat.le_of_ble_eq_true rfl, Nat.le_of_ble_eq_true rfl⟩ (Nat.le_of_ble_eq_true rfl) hcs (fun v M1 hp => ?_)
  obtain ⟨r, rfl, P6, hC6, h6⟩ := h5 v M1 hp
  show V κ cL_law RL 4 ret room_1 Q M1 613 [some (.ref b), some (.ref (gA κ.G 14)), some (.ref (gA κ.G 0)), some (.int (nI i))] [.int r]
  refine r_aload_n (pc := 613) dL_law_613 rfl ?_
  refine r_aload_n (pc := 614) dL_law_614 rfl ?_
  refine r_iload_n (pc := 615) dL_law_615 rfl ?_
  refine r_iconst (v := nI 1) (pc := 616) dL_law_616 (by decide) ?_
  refine r_iaddN (pc := 617) dL_law_617 ?_
  refine r_sld hX (by omega) (pc := 618) dL_law_618 ?_
  refine r_aload_n (pc := 619) dL_law_619 rfl ?_
  refine r_iload_n (pc := 620) dL_law_620 rfl ?_
  refine r_iconst (v := nI 2) (pc := 621) dL_law_621 (by decide) ?_
  refine r_iaddN (pc := 622) dL_law_622 ?_
  refine r_sld hX (by omega) (pc := 623) dL_law_623 ?_
  refine iv_L_73 hC6 (pc := 624) dL_law_624 rfl ⟨Nat.le_of_ble_eq_true rfl, Nat.le_of_ble_eq_true rfl⟩ (Nat.le_of_ble_eq_true rfl) hcs (fun v2 M2 hp2 => ?_)
  obtain ⟨rfl, hI2⟩ := h6 v2 M2 hp2
  show V κ cL_law RL 4 ret room_1 Q M2 627 [some (.ref b), some (.ref (gA κ.G 14)), some (.ref (gA κ.G 0)), some (.int (nI i))] [.int r, .int r]
  exact r_icmp_eq (tgt := 1572) (pc := 627) dL_law_627 (by decide) (fun _ => hk M2 hI2) (fun h => absurd rfl h)
set_option maxHeartbeats 4000000 in
set_option maxRecDepth 100000 in
/-- chair -/
theorem lc_14 {κ : Kx} {Q : State → Prop} {b L : Nat} {xs : Nat → Int32} (hX : Scr κ b L xs) (hcs : κ.k ≤ room_1.cells ∧ κ.n ≤ room_1.slots) {i : Nat} (hi : i + 7 ≤ L) {M : Mem} (hI : Inv M) (hk : ∀ M2, Inv M2 → V κ cL_law RL 4 ret room_1 Q M2 1572 [some (.ref b), some (.ref (gA κ.G 14)), some (.ref (gA κ.G 0)), some (.int (nI i))] []) : V κ cL_law RL 4 ret room_1 Q M 632 [some (.ref b), some (.ref (gA κ.G 14)), some (.ref (gA κ.G 0)), some (.int (nI i))] [] := by
  have hL := hX.2.2.2
  refine r_aload_n (pc := 632) dL_law_632 rfl ?_
  refine r_aload_n (pc := 633) dL_law_633 rfl ?_
  refine r_iload_n (pc := 634) dL_law_634 rfl ?_
  refine r_iconst (v := nI 1) (pc := 635) dL_law_635 (by decide) ?_
  refine r_iaddN (pc := 636) dL_law_636 ?_
  refine r_sld hX (by omega) (pc := 637) dL_law_637 ?_
  refine r_aload_n (pc := 638) dL_law_638 rfl ?_
  refine r_iload_n (pc := 639) dL_law_639 rfl ?_
  refine r_iconst (v := nI 2) (pc := 640) dL_law_640 (by decide) ?_
  refine r_iaddN (pc := 641) dL_law_641 ?_
  refine r_sld hX (by omega) (pc := 642) dL_law_642 ?_
  obtain ⟨P5, hC5, h5⟩ := s_chair κ.l κ.G M (xs (i + 1)) (xs (i + 2)) hI
  refine iv_L_74 hC5 (pc := 643) dL_law_643 rfl ⟨Nat.le_of_ble_eq_true rfl, Nat.le_of_ble_eq_true rfl⟩ (Nat.le_of_ble_eq_true rfl) hcs (fun v M1 hp => ?_)
  obtain ⟨r, rfl, P6, hC6, h6⟩ := h5 v M1 hp
  show V κ cL_law RL 4 ret room_1 Q M1 646 [some (.ref b), some (.ref (gA κ.G 14)), some (.ref (gA κ.G 0)), some (.int (nI i))] [.int r]
  refine r_aload_n (pc := 646) dL_law_646 rfl ?_
  refine r_aload_n (pc := 647) dL_law_647 rfl ?_
  refine r_iload_n (pc := 648) dL_law_648 rfl ?_
  refine r_iconst (v := nI 1) (pc := 649) dL_law_649 (by decide) ?_
  refine r_iaddN (pc := 650) dL_law_650 ?_
  refine r_sld hX (by omega) (pc := 651) dL_law_651 ?_
  refine r_aload_n (pc := 652) dL_law_652 rfl ?_
  refine r_iload_n (pc := 653) dL_law_653 rfl ?_
  refine r_iconst (v := nI 2) (pc := 654) dL_law_654 (by decide) ?_
  refine r_iaddN (pc := 655) dL_law_655 ?_
  refine r_sld hX (by omega) (pc := 656) dL_law_656 ?_
  refine iv_L_77 hC6 (pc := 657) dL_law_657 rfl ⟨Nat.le_of_ble_eq_true rfl, Nat.le_of_ble_eq_true rfl⟩ (Nat.le_of_ble_eq_true rfl) hcs (fun v2 M2 hp2 => ?_)
  obtain ⟨rfl, hI2⟩ := h6 v2 M2 hp2
  show V κ cL_law RL 4 ret room_1 Q M2 660 [some (.ref b), some (.ref (gA κ.G 14)), some (.ref (gA κ.G 0)), some (.int (nI i))] [.int r, .int r]
  exact r_icmp_eq (tgt := 1572) (pc := 660) dL_law_660 (by decide) (fun _ => hk M2 hI2) (fun h => absurd rfl h)
set_option maxHeartbeats 4000000 in
set_option maxRecDepth 100000 in
/-- ranked -/
theorem lc_15 {κ : Kx} {Q : State → Prop} {b L : Nat} {xs : Nat → Int32} (hX : Scr κ b L xs) (hcs : κ.k ≤ room_1.cells ∧ κ.n ≤ room_1.slots) {i : Nat} (hi : i + 7 ≤ L) {M : Mem} (hI : Inv M) (hk : ∀ M2, Inv M2 → V κ cL_law RL 4 ret room_1 Q M2 1572 [some (.ref b), some (.ref (gA κ.G 14)), some (.ref (gA κ.G 0)), some (.int (nI i))] []) : V κ cL_law RL 4 ret room_1 Q M 665 [some (.ref b), some (.ref (gA κ.G 14)), some (.ref (gA κ.G 0)), some (.int (nI i))] [] := by
  have hL := hX.2.2.2
  refine r_aload_n (pc := 665) dL_law_665 rfl ?_
  refine r_aload_n (pc := 666) dL_law_666 rfl ?_
  refine r_iload_n (pc := 667) dL_law_667 rfl ?_
  refine r_iconst (v := nI 1) (pc := 668) dL_law_668 (by decide) ?_
  refine r_iaddN (pc := 669) dL_law_669 ?_
  refine r_sld hX (by omega) (pc := 670) dL_law_670 ?_
  obtain ⟨P5, hC5, h5⟩ := s_ranked κ.l κ.G M (xs (i + 1)) hI
  refine iv_L_78 hC5 (pc := 671) dL_law_671 rfl ⟨Nat.le_of_ble_eq_true rfl, Nat.le_of_ble_eq_true rfl⟩ (Nat.le_of_ble_eq_true rfl) hcs (fun v M1 hp => ?_)
  obtain ⟨r, rfl, P6, hC6, h6⟩ := h5 v M1 hp
  show V κ cL_law RL 4 ret room_1 Q M1 674 [some (.ref b), some (.ref (gA κ.G 14)), some (.ref (gA κ.G 0)), some (.int (nI i))] [.int r]
  refine r_aload_n (pc := 674) dL_law_674 rfl ?_
  refine r_aload_n (pc := 675) dL_law_675 rfl ?_
  refine r_iload_n (pc := 676) dL_law_676 rfl ?_
  refine r_iconst (v := nI 1) (pc := 677) dL_law_677 (by decide) ?_
  refine r_iaddN (pc := 678) dL_law_678 ?_
  refine r_sld hX (by omega) (pc := 679) dL_law_679 ?_
  refine iv_L_81 hC6 (pc := 680) dL_law_680 rfl ⟨Nat.le_of_ble_eq_true rfl, Nat.le_of_ble_eq_true rfl⟩ (Nat.le_of_ble_eq_true rfl) hcs (fun v2 M2 hp2 => ?_)
  obtain ⟨rfl, hI2⟩ := h6 v2 M2 hp2
  show V κ cL_law RL 4 ret room_1 Q M2 683 [some (.ref b), some (.ref (gA κ.G 14)), some (.ref (gA κ.G 0)), some (.int (nI i))] [.int r, .int r]
  exact r_icmp_eq (tgt := 1572) (pc := 683) dL_law_683 (by decide) (fun _ => hk M2 hI2) (fun h => absurd rfl h)
set_option maxHeartbeats 4000000 in
set_option maxRecDepth 100000 in
/-- ahead -/
theorem lc_16 {κ : Kx} {Q : State → Prop} {b L : Nat} {xs : Nat → Int32} (hX : Scr κ b L xs) (hcs : κ.k ≤ room_1.cells ∧ κ.n ≤ room_1.slots) {i : Nat} (hi : i + 7 ≤ L) {M : Mem} (hI : Inv M) (hk : ∀ M2, Inv M2 → V κ cL_law RL 4 ret room_1 Q M2 1572 [some (.ref b), some (.ref (gA κ.G 14)), some (.ref (gA κ.G 0)), some (.int (nI i))] []) : V κ cL_law RL 4 ret room_1 Q M 688 [some (.ref b), some (.ref (gA κ.G 14)), some (.ref (gA κ.G 0)), some (.int (nI i))] [] := by
  have hL := hX.2.2.2
  refine r_aload_n (pc := 688) dL_law_688 rfl ?_
  refine r_aload_n (pc := 689) dL_law_689 rfl ?_
  refine r_iload_n (pc := 690) dL_law_690 rfl ?_
  refine r_iconst (v := nI 1) (pc := 691) dL_law_691 (by decide) ?_
  refine r_iaddN (pc := 692) dL_law_692 ?_
  refine r_sld hX (by omega) (pc := 693) dL_law_693 ?_
  refine r_aload_n (pc := 694) dL_law_694 rfl ?_
  refine r_iload_n (pc := 695) dL_law_695 rfl ?_
  refine r_iconst (v := nI 2) (pc := 696) dL_law_696 (by decide) ?_
  refine r_iaddN (pc := 697) dL_law_697 ?_
  refine r_sld hX (by omega) (pc := 698) dL_law_698 ?_
  refine r_aload_n (pc := 699) dL_law_699 rfl ?_
  refine r_iload_n (pc := 700) dL_law_700 rfl ?_
  refine r_iconst (v := nI 3) (pc := 701) dL_law_701 (by decide) ?_
  refine r_iaddN (pc := 702) dL_law_702 ?_
  refine r_sld hX (by omega) (pc := 703) dL_law_703 ?_
  obtain ⟨P5, hC5, h5⟩ := s_ahead κ.l κ.G M (xs (i + 1)) (xs (i + 2)) (xs (i + 3)) hI
  refine iv_L_82 hC5 (pc := 704) dL_law_704 rfl ⟨Nat.le_of_ble_eq_true rfl, Nat.le_of_ble_eq_true rfl⟩ (Nat.le_of_ble_eq_true rfl) hcs (fun v M1 hp => ?_)
  obtain ⟨r, rfl, P6, hC6, h6⟩ := h5 v M1 hp
  show V κ cL_law RL 4 ret room_1 Q M1 707 [some (.ref b), some (.ref (gA κ.G 14)), some (.ref (gA κ.G 0)), some (.int (nI i))] [.int r]
  refine r_aload_n (pc := 707) dL_law_707 rfl ?_
  refine r_aload_n (pc := 708) dL_law_708 rfl ?_
  refine r_iload_n (pc := 709) dL_law_709 rfl ?_
  refine r_iconst (v := nI 1) (pc := 710) dL_law_710 (by decide) ?_
  refine r_iaddN (pc := 711) dL_law_711 ?_
  refine r_sld hX (by omega) (pc := 712) dL_law_712 ?_
  refine r_aload_n (pc := 713) dL_law_713 rfl ?_
  refine r_iload_n (pc := 714) dL_law_714 rfl ?_
  refine r_iconst (v := nI 2) (pc := 715) dL_law_715 (by decide) ?_
  refine r_iaddN (pc := 716) dL_law_716 ?_
  refine r_sld hX (by omega) (pc := 717) dL_law_717 ?_
  refine r_aload_n (pc := 718) dL_law_718 rfl ?_
  refine r_iload_n (pc := 719) dL_law_719 rfl ?_
  refine r_iconst (v := nI 3) (pc := 720) dL_law_720 (by decide) ?_
  refine r_iaddN (pc := 721) dL_law_721 ?_
  refine r_sld hX (by omega) (pc := 722) dL_law_722 ?_
  refine iv_L_85 hC6 (pc := 723) dL_law_723 rfl ⟨Nat.le_of_ble_eq_true rfl, Nat.le_of_ble_eq_true rfl⟩ (Nat.le_of_ble_eq_true rfl) hcs (fun v2 M2 hp2 => ?_)
  obtain ⟨rfl, hI2⟩ := h6 v2 M2 hp2
  show V κ cL_law RL 4 ret room_1 Q M2 726 [some (.ref b), some (.ref (gA κ.G 14)), some (.ref (gA κ.G 0)), some (.int (nI i))] [.int r, .int r]
  exact r_icmp_eq (tgt := 1572) (pc := 726) dL_law_726 (by decide) (fun _ => hk M2 hI2) (fun h => absurd rfl h)
set_option maxHeartbeats 4000000 in
set_option maxRecDepth 100000 in
/-- minister -/
theorem lc_17 {κ : Kx} {Q : State → Prop} {b L : Nat} {xs : Nat → Int32} (hX : Scr κ b L xs) (hcs : κ.k ≤ room_1.cells ∧ κ.n ≤ room_1.slots) {i : Nat} (hi : i + 7 ≤ L) {M : Mem} (hI : Inv M) (hk : ∀ M2, Inv M2 → V κ cL_law RL 4 ret room_1 Q M2 1572 [some (.ref b), some (.ref (gA κ.G 14)), some (.ref (gA κ.G 0)), some (.int (nI i))] []) : V κ cL_law RL 4 ret room_1 Q M 731 [some (.ref b), some (.ref (gA κ.G 14)), some (.ref (gA κ.G 0)), some (.int (nI i))] [] := by
  have hL := hX.2.2.2
  refine r_aload_n (pc := 731) dL_law_731 rfl ?_
  refine r_aload_n (pc := 732) dL_law_732 rfl ?_
  refine r_iload_n (pc := 733) dL_law_733 rfl ?_
  refine r_iconst (v := nI 1) (pc := 734) dL_law_734 (by decide) ?_
  refine r_iaddN (pc := 735) dL_law_735 ?_
  refine r_sld hX (by omega) (pc := 736) dL_law_736 ?_
  obtain ⟨P5, hC5, h5⟩ := s_minister κ.l κ.G M (xs (i + 1)) hI
  refine iv_L_86 hC5 (pc := 737) dL_law_737 rfl ⟨Nat.le_of_ble_eq_true rfl, Nat.le_of_ble_eq_true rfl⟩ (Nat.le_of_ble_eq_true rfl) hcs (fun v M1 hp => ?_)
  obtain ⟨r, rfl, P6, hC6, h6⟩ := h5 v M1 hp
  show V κ cL_law RL 4 ret room_1 Q M1 740 [some (.ref b), some (.ref (gA κ.G 14)), some (.ref (gA κ.G 0)), some (.int (nI i))] [.int r]
  refine r_aload_n (pc := 740) dL_law_740 rfl ?_
  refine r_aload_n (pc := 741) dL_law_741 rfl ?_
  refine r_iload_n (pc := 742) dL_law_742 rfl ?_
  refine r_iconst (v := nI 1) (pc := 743) dL_law_743 (by decide) ?_
  refine r_iaddN (pc := 744) dL_law_744 ?_
  refine r_sld hX (by omega) (pc := 745) dL_law_745 ?_
  refine iv_L_89 hC6 (pc := 746) dL_law_746 rfl ⟨Nat.le_of_ble_eq_true rfl, Nat.le_of_ble_eq_true rfl⟩ (Nat.le_of_ble_eq_true rfl) hcs (fun v2 M2 hp2 => ?_)
  obtain ⟨rfl, hI2⟩ := h6 v2 M2 hp2
  show V κ cL_law RL 4 ret room_1 Q M2 749 [some (.ref b), some (.ref (gA κ.G 14)), some (.ref (gA κ.G 0)), some (.int (nI i))] [.int r, .int r]
  exact r_icmp_eq (tgt := 1572) (pc := 749) dL_law_749 (by decide) (fun _ => hk M2 hI2) (fun h => absurd rfl h)
set_option maxHeartbeats 4000000 in
set_option maxRecDepth 100000 in
/-- floor -/
theorem lc_18 {κ : Kx} {Q : State → Prop} {b L : Nat} {xs : Nat → Int32} (hX : Scr κ b L xs) (hcs : κ.k ≤ room_1.cells ∧ κ.n ≤ room_1.slots) {i : Nat} (hi : i + 7 ≤ L) {M : Mem} (hI : Inv M) (hk : ∀ M2, Inv M2 → V κ cL_law RL 4 ret room_1 Q M2 1572 [some (.ref b), some (.ref (gA κ.G 14)), some (.ref (gA κ.G 0)), some (.int (nI i))] []) : V κ cL_law RL 4 ret room_1 Q M 754 [some (.ref b), some (.ref (gA κ.G 14)), some (.ref (gA κ.G 0)), some (.int (nI i))] [] := by
  have hL := hX.2.2.2
  refine r_aload_n (pc := 754) dL_law_754 rfl ?_
  refine r_aload_n (pc := 755) dL_law_755 rfl ?_
  refine r_iload_n (pc := 756) dL_law_756 rfl ?_
  refine r_iconst (v := nI 1) (pc := 757) dL_law_757 (by decide) ?_
  refine r_iaddN (pc := 758) dL_law_758 ?_
  refine r_sld hX (by omega) (pc := 759) dL_law_759 ?_
  obtain ⟨P5, hC5, h5⟩ := s_floor κ.l κ.G M (xs (i + 1)) hI
  refine iv_L_90 hC5 (pc := 760) dL_law_760 rfl ⟨Nat.le_of_ble_eq_true rfl, Nat.le_of_ble_eq_true rfl⟩ (Nat.le_of_ble_eq_true rfl) hcs (fun v M1 hp => ?_)
  obtain ⟨r, rfl, P6, hC6, h6⟩ := h5 v M1 hp
  show V κ cL_law RL 4 ret room_1 Q M1 763 [some (.ref b), some (.ref (gA κ.G 14)), some (.ref (gA κ.G 0)), some (.int (nI i))] [.int r]
  refine r_aload_n (pc := 763) dL_law_763 rfl ?_
  refine r_aload_n (pc := 764) dL_law_764 rfl ?_
  refine r_iload_n (pc := 765) dL_law_765 rfl ?_
  refine r_iconst (v := nI 1) (pc := 766) dL_law_766 (by decide) ?_
  refine r_iaddN (pc := 767) dL_law_767 ?_
  refine r_sld hX (by omega) (pc := 768) dL_law_768 ?_
  refine iv_L_93 hC6 (pc := 769) dL_law_769 rfl ⟨Nat.le_of_ble_eq_true rfl, Nat.le_of_ble_eq_true rfl⟩ (Nat.le_of_ble_eq_true rfl) hcs (fun v2 M2 hp2 => ?_)
  obtain ⟨rfl, hI2⟩ := h6 v2 M2 hp2
  show V κ cL_law RL 4 ret room_1 Q M2 772 [some (.ref b), some (.ref (gA κ.G 14)), some (.ref (gA κ.G 0)), some (.int (nI i))] [.int r, .int r]
  exact r_icmp_eq (tgt := 1572) (pc := 772) dL_law_772 (by decide) (fun _ => hk M2 hI2) (fun h => absurd rfl h)
set_option maxHeartbeats 4000000 in
set_option maxRecDepth 100000 in
/-- rises -/
theorem lc_19 {κ : Kx} {Q : State → Prop} {b L : Nat} {xs : Nat → Int32} (hX : Scr κ b L xs) (hcs : κ.k ≤ room_1.cells ∧ κ.n ≤ room_1.slots) {i : Nat} (hi : i + 7 ≤ L) {M : Mem} (hI : Inv M) (hk : ∀ M2, Inv M2 → V κ cL_law RL 4 ret room_1 Q M2 1572 [some (.ref b), some (.ref (gA κ.G 14)), some (.ref (gA κ.G 0)), some (.int (nI i))] []) : V κ cL_law RL 4 ret room_1 Q M 777 [some (.ref b), some (.ref (gA κ.G 14)), some (.ref (gA κ.G 0)), some (.int (nI i))] [] := by
  have hL := hX.2.2.2
  refine r_aload_n (pc := 777) dL_law_777 rfl ?_
  refine r_aload_n (pc := 778) dL_law_778 rfl ?_
  refine r_iload_n (pc := 779) dL_law_779 rfl ?_
  refine r_iconst (v := nI 1) (pc := 780) dL_law_780 (by decide) ?_
  refine r_iaddN (pc := 781) dL_law_781 ?_
  refine r_sld hX (by omega) (pc := 782) dL_law_782 ?_
  refine r_aload_n (pc := 783) dL_law_783 rfl ?_
  refine r_iload_n (pc := 784) dL_law_784 rfl ?_
  refine r_iconst (v := nI 2) (pc := 785) dL_law_785 (by decide) ?_
  refine r_iaddN (pc := 786) dL_law_786 ?_
  refine r_sld hX (by omega) (pc := 787) dL_law_787 ?_
  obtain ⟨P5, hC5, h5⟩ := s_rises κ.l κ.G M (xs (i + 1)) (xs (i + 2)) hI
  refine iv_L_94 hC5 (pc := 788) dL_law_788 rfl ⟨Nat.le_of_ble_eq_true rfl, Nat.le_of_ble_eq_true rfl⟩ (Nat.le_of_ble_eq_true rfl) hcs (fun v M1 hp => ?_)
  obtain ⟨r, rfl, P6, hC6, h6⟩ := h5 v M1 hp
  show V κ cL_law RL 4 ret room_1 Q M1 791 [some (.ref b), some (.ref (gA κ.G 14)), some (.ref (gA κ.G 0)), some (.int (nI i))] [.int r]
  refine r_aload_n (pc := 791) dL_law_791 rfl ?_
  refine r_aload_n (pc := 792) dL_law_792 rfl ?_
  refine r_iload_n (pc := 793) dL_law_793 rfl ?_
  refine r_iconst (v := nI 1) (pc := 794) dL_law_794 (by decide) ?_
  refine r_iaddN (pc := 795) dL_law_795 ?_
  refine r_sld hX (by omega) (pc := 796) dL_law_796 ?_
  refine r_aload_n (pc := 797) dL_law_797 rfl ?_
  refine r_iload_n (pc := 798) dL_law_798 rfl ?_
  refine r_iconst (v := nI 2) (pc := 799) dL_law_799 (by decide) ?_
  refine r_iaddN (pc := 800) dL_law_800 ?_
  refine r_sld hX (by omega) (pc := 801) dL_law_801 ?_
  refine iv_L_97 hC6 (pc := 802) dL_law_802 rfl ⟨Nat.le_of_ble_eq_true rfl, Nat.le_of_ble_eq_true rfl⟩ (Nat.le_of_ble_eq_true rfl) hcs (fun v2 M2 hp2 => ?_)
  obtain ⟨rfl, hI2⟩ := h6 v2 M2 hp2
  show V κ cL_law RL 4 ret room_1 Q M2 805 [some (.ref b), some (.ref (gA κ.G 14)), some (.ref (gA κ.G 0)), some (.int (nI i))] [.int r, .int r]
  exact r_icmp_eq (tgt := 1572) (pc := 805) dL_law_805 (by decide) (fun _ => hk M2 hI2) (fun h => absurd rfl h)
set_option maxHeartbeats 4000000 in
set_option maxRecDepth 100000 in
/-- calm -/
theorem lc_20 {κ : Kx} {Q : State → Prop} {b L : Nat} {xs : Nat → Int32} (hX : Scr κ b L xs) (hcs : κ.k ≤ room_1.cells ∧ κ.n ≤ room_1.slots) {i : Nat} (hi : i + 7 ≤ L) {M : Mem} (hI : Inv M) (hk : ∀ M2, Inv M2 → V κ cL_law RL 4 ret room_1 Q M2 1572 [some (.ref b), some (.ref (gA κ.G 14)), some (.ref (gA κ.G 0)), some (.int (nI i))] []) : V κ cL_law RL 4 ret room_1 Q M 810 [some (.ref b), some (.ref (gA κ.G 14)), some (.ref (gA κ.G 0)), some (.int (nI i))] [] := by
  have hL := hX.2.2.2
  refine r_aload_n (pc := 810) dL_law_810 rfl ?_
  obtain ⟨P5, hC5, h5⟩ := s_calm κ.l κ.G M hI
  refine iv_L_98 hC5 (pc := 811) dL_law_811 rfl ⟨Nat.le_of_ble_eq_true rfl, Nat.le_of_ble_eq_true rfl⟩ (Nat.le_of_ble_eq_true rfl) hcs (fun v M1 hp => ?_)
  obtain ⟨r, rfl, P6, hC6, h6⟩ := h5 v M1 hp
  show V κ cL_law RL 4 ret room_1 Q M1 814 [some (.ref b), some (.ref (gA κ.G 14)), some (.ref (gA κ.G 0)), some (.int (nI i))] [.int r]
  refine r_aload_n (pc := 814) dL_law_814 rfl ?_
  refine iv_L_101 hC6 (pc := 815) dL_law_815 rfl ⟨Nat.le_of_ble_eq_true rfl, Nat.le_of_ble_eq_true rfl⟩ (Nat.le_of_ble_eq_true rfl) hcs (fun v2 M2 hp2 => ?_)
  obtain ⟨rfl, hI2⟩ := h6 v2 M2 hp2
  show V κ cL_law RL 4 ret room_1 Q M2 818 [some (.ref b), some (.ref (gA κ.G 14)), some (.ref (gA κ.G 0)), some (.int (nI i))] [.int r, .int r]
  exact r_icmp_eq (tgt := 1572) (pc := 818) dL_law_818 (by decide) (fun _ => hk M2 hI2) (fun h => absurd rfl h)
set_option maxHeartbeats 4000000 in
set_option maxRecDepth 100000 in
/-- cushionFor -/
theorem lc_21 {κ : Kx} {Q : State → Prop} {b L : Nat} {xs : Nat → Int32} (hX : Scr κ b L xs) (hcs : κ.k ≤ room_1.cells ∧ κ.n ≤ room_1.slots) {i : Nat} (hi : i + 7 ≤ L) {M : Mem} (hI : Inv M) (hk : ∀ M2, Inv M2 → V κ cL_law RL 4 ret room_1 Q M2 1572 [some (.ref b), some (.ref (gA κ.G 14)), some (.ref (gA κ.G 0)), some (.int (nI i))] []) : V κ cL_law RL 4 ret room_1 Q M 823 [some (.ref b), some (.ref (gA κ.G 14)), some (.ref (gA κ.G 0)), some (.int (nI i))] [] := by
  have hL := hX.2.2.2
  refine r_aload_n (pc := 823) dL_law_823 rfl ?_
  refine r_aload_n (pc := 824) dL_law_824 rfl ?_
  refine r_iload_n (pc := 825) dL_law_825 rfl ?_
  refine r_iconst (v := nI 1) (pc := 826) dL_law_826 (by decide) ?_
  refine r_iaddN (pc := 827) dL_law_827 ?_
  refine r_sld hX (by omega) (pc := 828) dL_law_828 ?_
  refine r_aload_n (pc := 829) dL_law_829 rfl ?_
  refine r_iload_n (pc := 830) dL_law_830 rfl ?_
  refine r_iconst (v := nI 2) (pc := 831) dL_law_831 (by decide) ?_
  refine r_iaddN (pc := 832) dL_law_832 ?_
  refine r_sld hX (by omega) (pc := 833) dL_law_833 ?_
  refine r_aload_n (pc := 834) dL_law_834 rfl ?_
  refine r_iload_n (pc := 835) dL_law_835 rfl ?_
  refine r_iconst (v := nI 3) (pc := 836) dL_law_836 (by decide) ?_
  refine r_iaddN (pc := 837) dL_law_837 ?_
  refine r_sld hX (by omega) (pc := 838) dL_law_838 ?_
  obtain ⟨P5, hC5, h5⟩ := s_cushionFor κ.l κ.G M (xs (i + 1)) (xs (i + 2)) (xs (i + 3)) hI
  refine iv_L_102 hC5 (pc := 839) dL_law_839 rfl ⟨Nat.le_of_ble_eq_true rfl, Nat.le_of_ble_eq_true rfl⟩ (Nat.le_of_ble_eq_true rfl) hcs (fun v M1 hp => ?_)
  obtain ⟨r, rfl, P6, hC6, h6⟩ := h5 v M1 hp
  show V κ cL_law RL 4 ret room_1 Q M1 842 [some (.ref b), some (.ref (gA κ.G 14)), some (.ref (gA κ.G 0)), some (.int (nI i))] [.int r]
  refine r_aload_n (pc := 842) dL_law_842 rfl ?_
  refine r_aload_n (pc := 843) dL_law_843 rfl ?_
  refine r_iload_n (pc := 844) dL_law_844 rfl ?_
  refine r_iconst (v := nI 1) (pc := 845) dL_law_845 (by decide) ?_
  refine r_iaddN (pc := 846) dL_law_846 ?_
  refine r_sld hX (by omega) (pc := 847) dL_law_847 ?_
  refine r_aload_n (pc := 848) dL_law_848 rfl ?_
  refine r_iload_n (pc := 849) dL_law_849 rfl ?_
  refine r_iconst (v := nI 2) (pc := 850) dL_law_850 (by decide) ?_
  refine r_iaddN (pc := 851) dL_law_851 ?_
  refine r_sld hX (by omega) (pc := 852) dL_law_852 ?_
  refine r_aload_n (pc := 853) dL_law_853 rfl ?_
  refine r_iload_n (pc := 854) dL_law_854 rfl ?_
  refine r_iconst (v := nI 3) (pc := 855) dL_law_855 (by decide) ?_
  refine r_iaddN (pc := 856) dL_law_856 ?_
  refine r_sld hX (by omega) (pc := 857) dL_law_857 ?_
  refine iv_L_105 hC6 (pc := 858) dL_law_858 rfl ⟨Nat.le_of_ble_eq_true rfl, Nat.le_of_ble_eq_true rfl⟩ (Nat.le_of_ble_eq_true rfl) hcs (fun v2 M2 hp2 => ?_)
  obtain ⟨rfl, hI2⟩ := h6 v2 M2 hp2
  show V κ cL_law RL 4 ret room_1 Q M2 861 [some (.ref b), some (.ref (gA κ.G 14)), some (.ref (gA κ.G 0)), some (.int (nI i))] [.int r, .int r]
  exact r_icmp_eq (tgt := 1572) (pc := 861) dL_law_861 (by decide) (fun _ => hk M2 hI2) (fun h => absurd rfl h)
set_option maxHeartbeats 4000000 in
set_option maxRecDepth 100000 in
/-- guard -/
theorem lc_22 {κ : Kx} {Q : State → Prop} {b L : Nat} {xs : Nat → Int32} (hX : Scr κ b L xs) (hcs : κ.k ≤ room_1.cells ∧ κ.n ≤ room_1.slots) {i : Nat} (hi : i + 7 ≤ L) {M : Mem} (hI : Inv M) (hk : ∀ M2, Inv M2 → V κ cL_law RL 4 ret room_1 Q M2 1572 [some (.ref b), some (.ref (gA κ.G 14)), some (.ref (gA κ.G 0)), some (.int (nI i))] []) : V κ cL_law RL 4 ret room_1 Q M 866 [some (.ref b), some (.ref (gA κ.G 14)), some (.ref (gA κ.G 0)), some (.int (nI i))] [] := by
  have hL := hX.2.2.2
  refine r_aload_n (pc := 866) dL_law_866 rfl ?_
  refine r_aload_n (pc := 867) dL_law_867 rfl ?_
  refine r_iload_n (pc := 868) dL_law_868 rfl ?_
  refine r_iconst (v := nI 1) (pc := 869) dL_law_869 (by decide) ?_
  refine r_iaddN (pc := 870) dL_law_870 ?_
  refine r_sld hX (by omega) (pc := 871) dL_law_871 ?_
  refine r_aload_n (pc := 872) dL_law_872 rfl ?_
  refine r_iload_n (pc := 873) dL_law_873 rfl ?_
  refine r_iconst (v := nI 2) (pc := 874) dL_law_874 (by decide) ?_
  refine r_iaddN (pc := 875) dL_law_875 ?_
  refine r_sld hX (by omega) (pc := 876) dL_law_876 ?_
  refine r_aload_n (pc := 877) dL_law_877 rfl ?_
  refine r_iload_n (pc := 878) dL_law_878 rfl ?_
  refine r_iconst (v := nI 3) (pc := 879) dL_law_879 (by decide) ?_
  refine r_iaddN (pc := 880) dL_law_880 ?_
  refine r_sld hX (by omega) (pc := 881) dL_law_881 ?_
  refine r_aload_n (pc := 882) dL_law_882 rfl ?_
  refine r_iload_n (pc := 883) dL_law_883 rfl ?_
  refine r_iconst (v := nI 4) (pc := 884) dL_law_884 (by decide) ?_
  refine r_iaddN (pc := 885) dL_law_885 ?_
  refine r_sld hX (by omega) (pc := 886) dL_law_886 ?_
  obtain ⟨P5, hC5, h5⟩ := s_guard κ.l κ.G M (xs (i + 1)) (xs (i + 2)) (xs (i + 3)) (xs (i + 4)) hI
  refine iv_L_106 hC5 (pc := 887) dL_law_887 rfl ⟨Nat.le_of_ble_eq_true rfl, Nat.le_of_ble_eq_true rfl⟩ (Nat.le_of_ble_eq_true rfl) hcs (fun v M1 hp => ?_)
  obtain ⟨r, rfl, P6, hC6, h6⟩ := h5 v M1 hp
  show V κ cL_law RL 4 ret room_1 Q M1 890 [some (.ref b), some (.ref (gA κ.G 14)), some (.ref (gA κ.G 0)), some (.int (nI i))] [.int r]
  refine r_aload_n (pc := 890) dL_law_890 rfl ?_
  refine r_aload_n (pc := 891) dL_law_891 rfl ?_
  refine r_iload_n (pc := 892) dL_law_892 rfl ?_
  refine r_iconst (v := nI 1) (pc := 893) dL_law_893 (by decide) ?_
  refine r_iaddN (pc := 894) dL_law_894 ?_
  refine r_sld hX (by omega) (pc := 895) dL_law_895 ?_
  refine r_aload_n (pc := 896) dL_law_896 rfl ?_
  refine r_iload_n (pc := 897) dL_law_897 rfl ?_
  refine r_iconst (v := nI 2) (pc := 898) dL_law_898 (by decide) ?_
  refine r_iaddN (pc := 899) dL_law_899 ?_
  refine r_sld hX (by omega) (pc := 900) dL_law_900 ?_
  refine r_aload_n (pc := 901) dL_law_901 rfl ?_
  refine r_iload_n (pc := 902) dL_law_902 rfl ?_
  refine r_iconst (v := nI 3) (pc := 903) dL_law_903 (by decide) ?_
  refine r_iaddN (pc := 904) dL_law_904 ?_
  refine r_sld hX (by omega) (pc := 905) dL_law_905 ?_
  refine r_aload_n (pc := 906) dL_law_906 rfl ?_
  refine r_iload_n (pc := 907) dL_law_907 rfl ?_
  refine r_iconst (v := nI 4) (pc := 908) dL_law_908 (by decide) ?_
  refine r_iaddN (pc := 909) dL_law_909 ?_
  refine r_sld hX (by omega) (pc := 910) dL_law_910 ?_
  refine iv_L_110 hC6 (pc := 911) dL_law_911 rfl ⟨Nat.le_of_ble_eq_true rfl, Nat.le_of_ble_eq_true rfl⟩ (Nat.le_of_ble_eq_true rfl) hcs (fun v2 M2 hp2 => ?_)
  obtain ⟨rfl, hI2⟩ := h6 v2 M2 hp2
  show V κ cL_law RL 4 ret room_1 Q M2 914 [some (.ref b), some (.ref (gA κ.G 14)), some (.ref (gA κ.G 0)), some (.int (nI i))] [.int r, .int r]
  exact r_icmp_eq (tgt := 1572) (pc := 914) dL_law_914 (by decide) (fun _ => hk M2 hI2) (fun h => absurd rfl h)
set_option maxHeartbeats 4000000 in
set_option maxRecDepth 100000 in
/-- bestWatch -/
theorem lc_23 {κ : Kx} {Q : State → Prop} {b L : Nat} {xs : Nat → Int32} (hX : Scr κ b L xs) (hcs : κ.k ≤ room_1.cells ∧ κ.n ≤ room_1.slots) {i : Nat} (hi : i + 7 ≤ L) {M : Mem} (hI : Inv M) (hk : ∀ M2, Inv M2 → V κ cL_law RL 4 ret room_1 Q M2 1572 [some (.ref b), some (.ref (gA κ.G 14)), some (.ref (gA κ.G 0)), some (.int (nI i))] []) : V κ cL_law RL 4 ret room_1 Q M 919 [some (.ref b), some (.ref (gA κ.G 14)), some (.ref (gA κ.G 0)), some (.int (nI i))] [] := by
  have hL := hX.2.2.2
  refine r_aload_n (pc := 919) dL_law_919 rfl ?_
  refine r_aload_n (pc := 920) dL_law_920 rfl ?_
  refine r_iload_n (pc := 921) dL_law_921 rfl ?_
  refine r_iconst (v := nI 1) (pc := 922) dL_law_922 (by decide) ?_
  refine r_iaddN (pc := 923) dL_law_923 ?_
  refine r_sld hX (by omega) (pc := 924) dL_law_924 ?_
  refine r_aload_n (pc := 925) dL_law_925 rfl ?_
  refine r_iload_n (pc := 926) dL_law_926 rfl ?_
  refine r_iconst (v := nI 2) (pc := 927) dL_law_927 (by decide) ?_
  refine r_iaddN (pc := 928) dL_law_928 ?_
  refine r_sld hX (by omega) (pc := 929) dL_law_929 ?_
  obtain ⟨P5, hC5, h5⟩ := s_bestWatch κ.l κ.G M (xs (i + 1)) (xs (i + 2)) hI
  refine iv_L_111 hC5 (pc := 930) dL_law_930 rfl ⟨Nat.le_of_ble_eq_true rfl, Nat.le_of_ble_eq_true rfl⟩ (Nat.le_of_ble_eq_true rfl) hcs (fun v M1 hp => ?_)
  obtain ⟨r, rfl, P6, hC6, h6⟩ := h5 v M1 hp
  show V κ cL_law RL 4 ret room_1 Q M1 933 [some (.ref b), some (.ref (gA κ.G 14)), some (.ref (gA κ.G 0)), some (.int (nI i))] [.int r]
  refine r_aload_n (pc := 933) dL_law_933 rfl ?_
  refine r_aload_n (pc := 934) dL_law_934 rfl ?_
  refine r_iload_n (pc := 935) dL_law_935 rfl ?_
  refine r_iconst (v := nI 1) (pc := 936) dL_law_936 (by decide) ?_
  refine r_iaddN (pc := 937) dL_law_937 ?_
  refine r_sld hX (by omega) (pc := 938) dL_law_938 ?_
  refine r_aload_n (pc := 939) dL_law_939 rfl ?_
  refine r_iload_n (pc := 940) dL_law_940 rfl ?_
  refine r_iconst (v := nI 2) (pc := 941) dL_law_941 (by decide) ?_
  refine r_iaddN (pc := 942) dL_law_942 ?_
  refine r_sld hX (by omega) (pc := 943) dL_law_943 ?_
  refine iv_L_114 hC6 (pc := 944) dL_law_944 rfl ⟨Nat.le_of_ble_eq_true rfl, Nat.le_of_ble_eq_true rfl⟩ (Nat.le_of_ble_eq_true rfl) hcs (fun v2 M2 hp2 => ?_)
  obtain ⟨rfl, hI2⟩ := h6 v2 M2 hp2
  show V κ cL_law RL 4 ret room_1 Q M2 947 [some (.ref b), some (.ref (gA κ.G 14)), some (.ref (gA κ.G 0)), some (.int (nI i))] [.int r, .int r]
  exact r_icmp_eq (tgt := 1572) (pc := 947) dL_law_947 (by decide) (fun _ => hk M2 hI2) (fun h => absurd rfl h)
set_option maxHeartbeats 4000000 in
set_option maxRecDepth 100000 in
/-- sawdust -/
theorem lc_24 {κ : Kx} {Q : State → Prop} {b L : Nat} {xs : Nat → Int32} (hX : Scr κ b L xs) (hcs : κ.k ≤ room_1.cells ∧ κ.n ≤ room_1.slots) {i : Nat} (hi : i + 7 ≤ L) {M : Mem} (hI : Inv M) (hk : ∀ M2, Inv M2 → V κ cL_law RL 4 ret room_1 Q M2 1572 [some (.ref b), some (.ref (gA κ.G 14)), some (.ref (gA κ.G 0)), some (.int (nI i))] []) : V κ cL_law RL 4 ret room_1 Q M 952 [some (.ref b), some (.ref (gA κ.G 14)), some (.ref (gA κ.G 0)), some (.int (nI i))] [] := by
  have hL := hX.2.2.2
  refine r_aload_n (pc := 952) dL_law_952 rfl ?_
  refine r_aload_n (pc := 953) dL_law_953 rfl ?_
  refine r_iload_n (pc := 954) dL_law_954 rfl ?_
  refine r_iconst (v := nI 1) (pc := 955) dL_law_955 (by decide) ?_
  refine r_iaddN (pc := 956) dL_law_956 ?_
  refine r_sld hX (by omega) (pc := 957) dL_law_957 ?_
  refine r_aload_n (pc := 958) dL_law_958 rfl ?_
  refine r_iload_n (pc := 959) dL_law_959 rfl ?_
  refine r_iconst (v := nI 2) (pc := 960) dL_law_960 (by decide) ?_
  refine r_iaddN (pc := 961) dL_law_961 ?_
  refine r_sld hX (by omega) (pc := 962) dL_law_962 ?_
  obtain ⟨P5, hC5, h5⟩ := s_sawdust κ.l κ.G M (xs (i + 1)) (xs (i + 2)) hI
  refine iv_L_115 hC5 (pc := 963) dL_law_963 rfl ⟨Nat.le_of_ble_eq_true rfl, Nat.le_of_ble_eq_true rfl⟩ (Nat.le_of_ble_eq_true rfl) hcs (fun v M1 hp => ?_)
  obtain ⟨r, rfl, P6, hC6, h6⟩ := h5 v M1 hp
  show V κ cL_law RL 4 ret room_1 Q M1 966 [some (.ref b), some (.ref (gA κ.G 14)), some (.ref (gA κ.G 0)), some (.int (nI i))] [.int r]
  refine r_aload_n (pc := 966) dL_law_966 rfl ?_
  refine r_aload_n (pc := 967) dL_law_967 rfl ?_
  refine r_iload_n (pc := 968) dL_law_968 rfl ?_
  refine r_iconst (v := nI 1) (pc := 969) dL_law_969 (by decide) ?_
  refine r_iaddN (pc := 970) dL_law_970 ?_
  refine r_sld hX (by omega) (pc := 971) dL_law_971 ?_
  refine r_aload_n (pc := 972) dL_law_972 rfl ?_
  refine r_iload_n (pc := 973) dL_law_973 rfl ?_
  refine r_iconst (v := nI 2) (pc := 974) dL_law_974 (by decide) ?_
  refine r_iaddN (pc := 975) dL_law_975 ?_
  refine r_sld hX (by omega) (pc := 976) dL_law_976 ?_
  refine iv_L_118 hC6 (pc := 977) dL_law_977 rfl ⟨Nat.le_of_ble_eq_true rfl, Nat.le_of_ble_eq_true rfl⟩ (Nat.le_of_ble_eq_true rfl) hcs (fun v2 M2 hp2 => ?_)
  obtain ⟨rfl, hI2⟩ := h6 v2 M2 hp2
  show V κ cL_law RL 4 ret room_1 Q M2 980 [some (.ref b), some (.ref (gA κ.G 14)), some (.ref (gA κ.G 0)), some (.int (nI i))] [.int r, .int r]
  exact r_icmp_eq (tgt := 1572) (pc := 980) dL_law_980 (by decide) (fun _ => hk M2 hI2) (fun h => absurd rfl h)
set_option maxHeartbeats 4000000 in
set_option maxRecDepth 100000 in
/-- pile -/
theorem lc_25 {κ : Kx} {Q : State → Prop} {b L : Nat} {xs : Nat → Int32} (hX : Scr κ b L xs) (hcs : κ.k ≤ room_1.cells ∧ κ.n ≤ room_1.slots) {i : Nat} (hi : i + 7 ≤ L) {M : Mem} (hI : Inv M) (hk : ∀ M2, Inv M2 → V κ cL_law RL 4 ret room_1 Q M2 1572 [some (.ref b), some (.ref (gA κ.G 14)), some (.ref (gA κ.G 0)), some (.int (nI i))] []) : V κ cL_law RL 4 ret room_1 Q M 985 [some (.ref b), some (.ref (gA κ.G 14)), some (.ref (gA κ.G 0)), some (.int (nI i))] [] := by
  have hL := hX.2.2.2
  refine r_aload_n (pc := 985) dL_law_985 rfl ?_
  refine r_aload_n (pc := 986) dL_law_986 rfl ?_
  refine r_iload_n (pc := 987) dL_law_987 rfl ?_
  refine r_iconst (v := nI 1) (pc := 988) dL_law_988 (by decide) ?_
  refine r_iaddN (pc := 989) dL_law_989 ?_
  refine r_sld hX (by omega) (pc := 990) dL_law_990 ?_
  refine r_aload_n (pc := 991) dL_law_991 rfl ?_
  refine r_iload_n (pc := 992) dL_law_992 rfl ?_
  refine r_iconst (v := nI 2) (pc := 993) dL_law_993 (by decide) ?_
  refine r_iaddN (pc := 994) dL_law_994 ?_
  refine r_sld hX (by omega) (pc := 995) dL_law_995 ?_
  obtain ⟨P5, hC5, h5⟩ := s_pile κ.l κ.G M (xs (i + 1)) (xs (i + 2)) hI
  refine iv_L_119 hC5 (pc := 996) dL_law_996 rfl ⟨Nat.le_of_ble_eq_true rfl, Nat.le_of_ble_eq_true rfl⟩ (Nat.le_of_ble_eq_true rfl) hcs (fun v M1 hp => ?_)
  obtain ⟨r, rfl, P6, hC6, h6⟩ := h5 v M1 hp
  show V κ cL_law RL 4 ret room_1 Q M1 999 [some (.ref b), some (.ref (gA κ.G 14)), some (.ref (gA κ.G 0)), some (.int (nI i))] [.int r]
  refine r_aload_n (pc := 999) dL_law_999 rfl ?_
  refine r_aload_n (pc := 1000) dL_law_1000 rfl ?_
  refine r_iload_n (pc := 1001) dL_law_1001 rfl ?_
  refine r_iconst (v := nI 1) (pc := 1002) dL_law_1002 (by decide) ?_
  refine r_iaddN (pc := 1003) dL_law_1003 ?_
  refine r_sld hX (by omega) (pc := 1004) dL_law_1004 ?_
  refine r_aload_n (pc := 1005) dL_law_1005 rfl ?_
  refine r_iload_n (pc := 1006) dL_law_1006 rfl ?_
  refine r_iconst (v := nI 2) (pc := 1007) dL_law_1007 (by decide) ?_
  refine r_iaddN (pc := 1008) dL_law_1008 ?_
  refine r_sld hX (by omega) (pc := 1009) dL_law_1009 ?_
  refine iv_L_122 hC6 (pc := 1010) dL_law_1010 rfl ⟨Nat.le_of_ble_eq_true rfl, Nat.le_of_ble_eq_true rfl⟩ (Nat.le_of_ble_eq_true rfl) hcs (fun v2 M2 hp2 => ?_)
  obtain ⟨rfl, hI2⟩ := h6 v2 M2 hp2
  show V κ cL_law RL 4 ret room_1 Q M2 1013 [some (.ref b), some (.ref (gA κ.G 14)), some (.ref (gA κ.G 0)), some (.int (nI i))] [.int r, .int r]
  exact r_icmp_eq (tgt := 1572) (pc := 1013) dL_law_1013 (by decide) (fun _ => hk M2 hI2) (fun h => absurd rfl h)
set_option maxHeartbeats 4000000 in
set_option maxRecDepth 100000 in
/-- climb -/
theorem lc_26 {κ : Kx} {Q : State → Prop} {b L : Nat} {xs : Nat → Int32} (hX : Scr κ b L xs) (hcs : κ.k ≤ room_1.cells ∧ κ.n ≤ room_1.slots) {i : Nat} (hi : i + 7 ≤ L) {M : Mem} (hI : Inv M) (hk : ∀ M2, Inv M2 → V κ cL_law RL 4 ret room_1 Q M2 1572 [some (.ref b), some (.ref (gA κ.G 14)), some (.ref (gA κ.G 0)), some (.int (nI i))] []) : V κ cL_law RL 4 ret room_1 Q M 1018 [some (.ref b), some (.ref (gA κ.G 14)), some (.ref (gA κ.G 0)), some (.int (nI i))] [] := by
  have hL := hX.2.2.2
  refine r_aload_n (pc := 1018) dL_law_1018 rfl ?_
  refine r_aload_n (pc := 1019) dL_law_1019 rfl ?_
  refine r_iload_n (pc := 1020) dL_law_1020 rfl ?_
  refine r_iconst (v := nI 1) (pc := 1021) dL_law_1021 (by decide) ?_
  refine r_iaddN (pc := 1022) dL_law_1022 ?_
  refine r_sld hX (by omega) (pc := 1023) dL_law_1023 ?_
  obtain ⟨P5, hC5, h5⟩ := s_climb κ.l κ.G M (xs (i + 1)) hI
  refine iv_L_123 hC5 (pc := 1024) dL_law_1024 rfl ⟨Nat.le_of_ble_eq_true rfl, Nat.le_of_ble_eq_true rfl⟩ (Nat.le_of_ble_eq_true rfl) hcs (fun v M1 hp => ?_)
  obtain ⟨r, rfl, P6, hC6, h6⟩ := h5 v M1 hp
  show V κ cL_law RL 4 ret room_1 Q M1 1027 [some (.ref b), some (.ref (gA κ.G 14)), some (.ref (gA κ.G 0)), some (.int (nI i))] [.int r]
  refine r_aload_n (pc := 1027) dL_law_1027 rfl ?_
  refine r_aload_n (pc := 1028) dL_law_1028 rfl ?_
  refine r_iload_n (pc := 1029) dL_law_1029 rfl ?_
  refine r_iconst (v := nI 1) (pc := 1030) dL_law_1030 (by decide) ?_
  refine r_iaddN (pc := 1031) dL_law_1031 ?_
  refine r_sld hX (by omega) (pc := 1032) dL_law_1032 ?_
  refine iv_L_126 hC6 (pc := 1033) dL_law_1033 rfl ⟨Nat.le_of_ble_eq_true rfl, Nat.le_of_ble_eq_true rfl⟩ (Nat.le_of_ble_eq_true rfl) hcs (fun v2 M2 hp2 => ?_)
  obtain ⟨rfl, hI2⟩ := h6 v2 M2 hp2
  show V κ cL_law RL 4 ret room_1 Q M2 1036 [some (.ref b), some (.ref (gA κ.G 14)), some (.ref (gA κ.G 0)), some (.int (nI i))] [.int r, .int r]
  exact r_icmp_eq (tgt := 1572) (pc := 1036) dL_law_1036 (by decide) (fun _ => hk M2 hI2) (fun h => absurd rfl h)
set_option maxHeartbeats 4000000 in
set_option maxRecDepth 100000 in
/-- coalition -/
theorem lc_27 {κ : Kx} {Q : State → Prop} {b L : Nat} {xs : Nat → Int32} (hX : Scr κ b L xs) (hcs : κ.k ≤ room_1.cells ∧ κ.n ≤ room_1.slots) {i : Nat} (hi : i + 7 ≤ L) {M : Mem} (hI : Inv M) (hk : ∀ M2, Inv M2 → V κ cL_law RL 4 ret room_1 Q M2 1572 [some (.ref b), some (.ref (gA κ.G 14)), some (.ref (gA κ.G 0)), some (.int (nI i))] []) : V κ cL_law RL 4 ret room_1 Q M 1041 [some (.ref b), some (.ref (gA κ.G 14)), some (.ref (gA κ.G 0)), some (.int (nI i))] [] := by
  have hL := hX.2.2.2
  refine r_aload_n (pc := 1041) dL_law_1041 rfl ?_
  refine r_aload_n (pc := 1042) dL_law_1042 rfl ?_
  refine r_iload_n (pc := 1043) dL_law_1043 rfl ?_
  refine r_iconst (v := nI 1) (pc := 1044) dL_law_1044 (by decide) ?_
  refine r_iaddN (pc := 1045) dL_law_1045 ?_
  refine r_sld hX (by omega) (pc := 1046) dL_law_1046 ?_
  obtain ⟨P5, hC5, h5⟩ := s_coalition κ.l κ.G M (xs (i + 1)) hI
  refine iv_L_127 hC5 (pc := 1047) dL_law_1047 rfl ⟨Nat.le_of_ble_eq_true rfl, Nat.le_of_ble_eq_true rfl⟩ (Nat.le_of_ble_eq_true rfl) hcs (fun v M1 hp => ?_)
  obtain ⟨r, rfl, P6, hC6, h6⟩ := h5 v M1 hp
  show V κ cL_law RL 4 ret room_1 Q M1 1050 [some (.ref b), some (.ref (gA κ.G 14)), some (.ref (gA κ.G 0)), some (.int (nI i))] [.int r]
  refine r_aload_n (pc := 1050) dL_law_1050 rfl ?_
  refine r_aload_n (pc := 1051) dL_law_1051 rfl ?_
  refine r_iload_n (pc := 1052) dL_law_1052 rfl ?_
  refine r_iconst (v := nI 1) (pc := 1053) dL_law_1053 (by decide) ?_
  refine r_iaddN (pc := 1054) dL_law_1054 ?_
  refine r_sld hX (by omega) (pc := 1055) dL_law_1055 ?_
  refine iv_L_130 hC6 (pc := 1056) dL_law_1056 rfl ⟨Nat.le_of_ble_eq_true rfl, Nat.le_of_ble_eq_true rfl⟩ (Nat.le_of_ble_eq_true rfl) hcs (fun v2 M2 hp2 => ?_)
  obtain ⟨rfl, hI2⟩ := h6 v2 M2 hp2
  show V κ cL_law RL 4 ret room_1 Q M2 1059 [some (.ref b), some (.ref (gA κ.G 14)), some (.ref (gA κ.G 0)), some (.int (nI i))] [.int r, .int r]
  exact r_icmp_eq (tgt := 1572) (pc := 1059) dL_law_1059 (by decide) (fun _ => hk M2 hI2) (fun h => absurd rfl h)
set_option maxHeartbeats 4000000 in
set_option maxRecDepth 100000 in
/-- sawnBy -/
theorem lc_28 {κ : Kx} {Q : State → Prop} {b L : Nat} {xs : Nat → Int32} (hX : Scr κ b L xs) (hcs : κ.k ≤ room_1.cells ∧ κ.n ≤ room_1.slots) {i : Nat} (hi : i + 7 ≤ L) {M : Mem} (hI : Inv M) (hk : ∀ M2, Inv M2 → V κ cL_law RL 4 ret room_1 Q M2 1572 [some (.ref b), some (.ref (gA κ.G 14)), some (.ref (gA κ.G 0)), some (.int (nI i))] []) : V κ cL_law RL 4 ret room_1 Q M 1064 [some (.ref b), some (.ref (gA κ.G 14)), some (.ref (gA κ.G 0)), some (.int (nI i))] [] := by
  have hL := hX.2.2.2
  refine r_aload_n (pc := 1064) dL_law_1064 rfl ?_
  refine r_aload_n (pc := 1065) dL_law_1065 rfl ?_
  refine r_iload_n (pc := 1066) dL_law_1066 rfl ?_
  refine r_iconst (v := nI 1) (pc := 1067) dL_law_1067 (by decide) ?_
  refine r_iaddN (pc := 1068) dL_law_1068 ?_
  refine r_sld hX (by omega) (pc := 1069) dL_law_1069 ?_
  obtain ⟨P5, hC5, h5⟩ := s_sawnBy κ.l κ.G M (xs (i + 1)) hI
  refine iv_L_131 hC5 (pc := 1070) dL_law_1070 rfl ⟨Nat.le_of_ble_eq_true rfl, Nat.le_of_ble_eq_true rfl⟩ (Nat.le_of_ble_eq_true rfl) hcs (fun v M1 hp => ?_)
  obtain ⟨r, rfl, P6, hC6, h6⟩ := h5 v M1 hp
  show V κ cL_law RL 4 ret room_1 Q M1 1073 [some (.ref b), some (.ref (gA κ.G 14)), some (.ref (gA κ.G 0)), some (.int (nI i))] [.int r]
  refine r_aload_n (pc := 1073) dL_law_1073 rfl ?_
  refine r_aload_n (pc := 1074) dL_law_1074 rfl ?_
  refine r_iload_n (pc := 1075) dL_law_1075 rfl ?_
  refine r_iconst (v := nI 1) (pc := 1076) dL_law_1076 (by decide) ?_
  refine r_iaddN (pc := 1077) dL_law_1077 ?_
  refine r_sld hX (by omega) (pc := 1078) dL_law_1078 ?_
  refine iv_L_134 hC6 (pc := 1079) dL_law_1079 rfl ⟨Nat.le_of_ble_eq_true rfl, Nat.le_of_ble_eq_true rfl⟩ (Nat.le_of_ble_eq_true rfl) hcs (fun v2 M2 hp2 => ?_)
  obtain ⟨rfl, hI2⟩ := h6 v2 M2 hp2
  show V κ cL_law RL 4 ret room_1 Q M2 1082 [some (.ref b), some (.ref (gA κ.G 14)), some (.ref (gA κ.G 0)), some (.int (nI i))] [.int r, .int r]
  exact r_icmp_eq (tgt := 1572) (pc := 1082) dL_law_1082 (by decide) (fun _ => hk M2 hI2) (fun h => absurd rfl h)
set_option maxHeartbeats 4000000 in
set_option maxRecDepth 100000 in
/-- round -/
theorem lc_29 {κ : Kx} {Q : State → Prop} {b L : Nat} {xs : Nat → Int32} (hX : Scr κ b L xs) (hcs : κ.k ≤ room_1.cells ∧ κ.n ≤ room_1.slots) {i : Nat} (hi : i + 7 ≤ L) {M : Mem} (hI : Inv M) (hk : ∀ M2, Inv M2 → V κ cL_law RL 4 ret room_1 Q M2 1572 [some (.ref b), some (.ref (gA κ.G 14)), some (.ref (gA κ.G 0)), some (.int (nI i))] []) : V κ cL_law RL 4 ret room_1 Q M 1087 [some (.ref b), some (.ref (gA κ.G 14)), some (.ref (gA κ.G 0)), some (.int (nI i))] [] := by
  have hL := hX.2.2.2
  refine r_aload_n (pc := 1087) dL_law_1087 rfl ?_
  obtain ⟨P5, hC5, h5⟩ := s_round κ.l κ.G M hI
  refine iv_L_135 hC5 (pc := 1088) dL_law_1088 rfl ⟨Nat.le_of_ble_eq_true rfl, Nat.le_of_ble_eq_true rfl⟩ (Nat.le_of_ble_eq_true rfl) hcs (fun v M1 hp => ?_)
  obtain ⟨r, rfl, P6, hC6, h6⟩ := h5 v M1 hp
  show V κ cL_law RL 4 ret room_1 Q M1 1091 [some (.ref b), some (.ref (gA κ.G 14)), some (.ref (gA κ.G 0)), some (.int (nI i))] [.int r]
  refine r_aload_n (pc := 1091) dL_law_1091 rfl ?_
  refine iv_L_138 hC6 (pc := 1092) dL_law_1092 rfl ⟨Nat.le_of_ble_eq_true rfl, Nat.le_of_ble_eq_true rfl⟩ (Nat.le_of_ble_eq_true rfl) hcs (fun v2 M2 hp2 => ?_)
  obtain ⟨rfl, hI2⟩ := h6 v2 M2 hp2
  show V κ cL_law RL 4 ret room_1 Q M2 1095 [some (.ref b), some (.ref (gA κ.G 14)), some (.ref (gA κ.G 0)), some (.int (nI i))] [.int r, .int r]
  exact r_icmp_eq (tgt := 1572) (pc := 1095) dL_law_1095 (by decide) (fun _ => hk M2 hI2) (fun h => absurd rfl h)
set_option maxHeartbeats 4000000 in
set_option maxRecDepth 100000 in
/-- enemy -/
theorem lc_30 {κ : Kx} {Q : State → Prop} {b L : Nat} {xs : Nat → Int32} (hX : Scr κ b L xs) (hcs : κ.k ≤ room_1.cells ∧ κ.n ≤ room_1.slots) {i : Nat} (hi : i + 7 ≤ L) {M : Mem} (hI : Inv M) (hk : ∀ M2, Inv M2 → V κ cL_law RL 4 ret room_1 Q M2 1572 [some (.ref b), some (.ref (gA κ.G 14)), some (.ref (gA κ.G 0)), some (.int (nI i))] []) : V κ cL_law RL 4 ret room_1 Q M 1100 [some (.ref b), some (.ref (gA κ.G 14)), some (.ref (gA κ.G 0)), some (.int (nI i))] [] := by
  have hL := hX.2.2.2
  refine r_aload_n (pc := 1100) dL_law_1100 rfl ?_
  refine r_aload_n (pc := 1101) dL_law_1101 rfl ?_
  refine r_iload_n (pc := 1102) dL_law_1102 rfl ?_
  refine r_iconst (v := nI 1) (pc := 1103) dL_law_1103 (by decide) ?_
  refine r_iaddN (pc := 1104) dL_law_1104 ?_
  refine r_sld hX (by omega) (pc := 1105) dL_law_1105 ?_
  refine r_aload_n (pc := 1106) dL_law_1106 rfl ?_
  refine r_iload_n (pc := 1107) dL_law_1107 rfl ?_
  refine r_iconst (v := nI 2) (pc := 1108) dL_law_1108 (by decide) ?_
  refine r_iaddN (pc := 1109) dL_law_1109 ?_
  refine r_sld hX (by omega) (pc := 1110) dL_law_1110 ?_
  refine r_aload_n (pc := 1111) dL_law_1111 rfl ?_
  refine r_iload_n (pc := 1112) dL_law_1112 rfl ?_
  refine r_iconst (v := nI 3) (pc := 1113) dL_law_1113 (by decide) ?_
  refine r_iaddN (pc := 1114) dL_law_1114 ?_
  refine r_sld hX (by omega) (pc := 1115) dL_law_1115 ?_
  obtain ⟨P5, hC5, h5⟩ := s_enemy κ.l κ.G M (xs (i + 1)) (xs (i + 2)) (xs (i + 3)) hI
  refine iv_L_139 hC5 (pc := 1116) dL_law_1116 rfl ⟨Nat.le_of_ble_eq_true rfl, Nat.le_of_ble_eq_true rfl⟩ (Nat.le_of_ble_eq_true rfl) hcs (fun v M1 hp => ?_)
  obtain ⟨r, rfl, P6, hC6, h6⟩ := h5 v M1 hp
  show V κ cL_law RL 4 ret room_1 Q M1 1119 [some (.ref b), some (.ref (gA κ.G 14)), some (.ref (gA κ.G 0)), some (.int (nI i))] [.int r]
  refine r_aload_n (pc := 1119) dL_law_1119 rfl ?_
  refine r_aload_n (pc := 1120) dL_law_1120 rfl ?_
  refine r_iload_n (pc := 1121) dL_law_1121 rfl ?_
  refine r_iconst (v := nI 1) (pc := 1122) dL_law_1122 (by decide) ?_
  refine r_iaddN (pc := 1123) dL_law_1123 ?_
  refine r_sld hX (by omega) (pc := 1124) dL_law_1124 ?_
  refine r_aload_n (pc := 1125) dL_law_1125 rfl ?_
  refine r_iload_n (pc := 1126) dL_law_1126 rfl ?_
  refine r_iconst (v := nI 2) (pc := 1127) dL_law_1127 (by decide) ?_
  refine r_iaddN (pc := 1128) dL_law_1128 ?_
  refine r_sld hX (by omega) (pc := 1129) dL_law_1129 ?_
  refine r_aload_n (pc := 1130) dL_law_1130 rfl ?_
  refine r_iload_n (pc := 1131) dL_law_1131 rfl ?_
  refine r_iconst (v := nI 3) (pc := 1132) dL_law_1132 (by decide) ?_
  refine r_iaddN (pc := 1133) dL_law_1133 ?_
  refine r_sld hX (by omega) (pc := 1134) dL_law_1134 ?_
  refine iv_L_142 hC6 (pc := 1135) dL_law_1135 rfl ⟨Nat.le_of_ble_eq_true rfl, Nat.le_of_ble_eq_true rfl⟩ (Nat.le_of_ble_eq_true rfl) hcs (fun v2 M2 hp2 => ?_)
  obtain ⟨rfl, hI2⟩ := h6 v2 M2 hp2
  show V κ cL_law RL 4 ret room_1 Q M2 1138 [some (.ref b), some (.ref (gA κ.G 14)), some (.ref (gA κ.G 0)), some (.int (nI i))] [.int r, .int r]
  exact r_icmp_eq (tgt := 1572) (pc := 1138) dL_law_1138 (by decide) (fun _ => hk M2 hI2) (fun h => absurd rfl h)
set_option maxHeartbeats 4000000 in
set_option maxRecDepth 100000 in
/-- who -/
theorem lc_31 {κ : Kx} {Q : State → Prop} {b L : Nat} {xs : Nat → Int32} (hX : Scr κ b L xs) (hcs : κ.k ≤ room_1.cells ∧ κ.n ≤ room_1.slots) {i : Nat} (hi : i + 7 ≤ L) {M : Mem} (hI : Inv M) (hk : ∀ M2, Inv M2 → V κ cL_law RL 4 ret room_1 Q M2 1572 [some (.ref b), some (.ref (gA κ.G 14)), some (.ref (gA κ.G 0)), some (.int (nI i))] []) : V κ cL_law RL 4 ret room_1 Q M 1143 [some (.ref b), some (.ref (gA κ.G 14)), some (.ref (gA κ.G 0)), some (.int (nI i))] [] := by
  have hL := hX.2.2.2
  refine r_aload_n (pc := 1143) dL_law_1143 rfl ?_
  refine r_aload_n (pc := 1144) dL_law_1144 rfl ?_
  refine r_iload_n (pc := 1145) dL_law_1145 rfl ?_
  refine r_iconst (v := nI 1) (pc := 1146) dL_law_1146 (by decide) ?_
  refine r_iaddN (pc := 1147) dL_law_1147 ?_
  refine r_sld hX (by omega) (pc := 1148) dL_law_1148 ?_
  refine r_aload_n (pc := 1149) dL_law_1149 rfl ?_
  refine r_iload_n (pc := 1150) dL_law_1150 rfl ?_
  refine r_iconst (v := nI 2) (pc := 1151) dL_law_1151 (by decide) ?_
  refine r_iaddN (pc := 1152) dL_law_1152 ?_
  refine r_sld hX (by omega) (pc := 1153) dL_law_1153 ?_
  refine r_aload_n (pc := 1154) dL_law_1154 rfl ?_
  refine r_iload_n (pc := 1155) dL_law_1155 rfl ?_
  refine r_iconst (v := nI 3) (pc := 1156) dL_law_1156 (by decide) ?_
  refine r_iaddN (pc := 1157) dL_law_1157 ?_
  refine r_sld hX (by omega) (pc := 1158) dL_law_1158 ?_
  refine r_aload_n (pc := 1159) dL_law_1159 rfl ?_
  refine r_iload_n (pc := 1160) dL_law_1160 rfl ?_
  refine r_iconst (v := nI 4) (pc := 1161) dL_law_1161 (by decide) ?_
  refine r_iaddN (pc := 1162) dL_law_1162 ?_
  refine r_sld hX (by omega) (pc := 1163) dL_law_1163 ?_
  refine r_aload_n (pc := 1164) dL_law_1164 rfl ?_
  refine r_iload_n (pc := 1165) dL_law_1165 rfl ?_
  refine r_iconst (v := nI 5) (pc := 1166) dL_law_1166 (by decide) ?_
  refine r_iaddN (pc := 1167) dL_law_1167 ?_
  refine r_sld hX (by omega) (pc := 1168) dL_law_1168 ?_
  refine r_aload_n (pc := 1169) dL_law_1169 rfl ?_
  refine r_iload_n (pc := 1170) dL_law_1170 rfl ?_
  refine r_bipush (v := nI 6) (pc := 1171) dL_law_1171 (by decide) ?_
  refine r_iaddN (pc := 1173) dL_law_1173 ?_
  refine r_sld hX (by omega) (pc := 1174) dL_law_1174 ?_
  obtain ⟨P5, hC5, h5⟩ := s_who κ.l κ.G M (xs (i + 1)) (xs (i + 2)) (xs (i + 3)) (xs (i + 4)) (xs (i + 5)) (xs (i + 6)) hI
  refine iv_L_143 hC5 (pc := 1175) dL_law_1175 rfl ⟨Nat.le_of_ble_eq_true rfl, Nat.le_of_ble_eq_true rfl⟩ (Nat.le_of_ble_eq_true rfl) hcs (fun v M1 hp => ?_)
  obtain ⟨r, rfl, P6, hC6, h6⟩ := h5 v M1 hp
  show V κ cL_law RL 4 ret room_1 Q M1 1178 [some (.ref b), some (.ref (gA κ.G 14)), some (.ref (gA κ.G 0)), some (.int (nI i))] [.int r]
  refine r_aload_n (pc := 1178) dL_law_1178 rfl ?_
  refine r_aload_n (pc := 1179) dL_law_1179 rfl ?_
  refine r_iload_n (pc := 1180) dL_law_1180 rfl ?_
  refine r_iconst (v := nI 1) (pc := 1181) dL_law_1181 (by decide) ?_
  refine r_iaddN (pc := 1182) dL_law_1182 ?_
  refine r_sld hX (by omega) (pc := 1183) dL_law_1183 ?_
  refine r_aload_n (pc := 1184) dL_law_1184 rfl ?_
  refine r_iload_n (pc := 1185) dL_law_1185 rfl ?_
  refine r_iconst (v := nI 2) (pc := 1186) dL_law_1186 (by decide) ?_
  refine r_iaddN (pc := 1187) dL_law_1187 ?_
  refine r_sld hX (by omega) (pc := 1188) dL_law_1188 ?_
  refine r_aload_n (pc := 1189) dL_law_1189 rfl ?_
  refine r_iload_n (pc := 1190) dL_law_1190 rfl ?_
  refine r_iconst (v := nI 3) (pc := 1191) dL_law_1191 (by decide) ?_
  refine r_iaddN (pc := 1192) dL_law_1192 ?_
  refine r_sld hX (by omega) (pc := 1193) dL_law_1193 ?_
  refine r_aload_n (pc := 1194) dL_law_1194 rfl ?_
  refine r_iload_n (pc := 1195) dL_law_1195 rfl ?_
  refine r_iconst (v := nI 4) (pc := 1196) dL_law_1196 (by decide) ?_
  refine r_iaddN (pc := 1197) dL_law_1197 ?_
  refine r_sld hX (by omega) (pc := 1198) dL_law_1198 ?_
  refine r_aload_n (pc := 1199) dL_law_1199 rfl ?_
  refine r_iload_n (pc := 1200) dL_law_1200 rfl ?_
  refine r_iconst (v := nI 5) (pc := 1201) dL_law_1201 (by decide) ?_
  refine r_iaddN (pc := 1202) dL_law_1202 ?_
  refine r_sld hX (by omega) (pc := 1203) dL_law_1203 ?_
  refine r_aload_n (pc := 1204) dL_law_1204 rfl ?_
  refine r_iload_n (pc := 1205) dL_law_1205 rfl ?_
  refine r_bipush (v := nI 6) (pc := 1206) dL_law_1206 (by decide) ?_
  refine r_iaddN (pc := 1208) dL_law_1208 ?_
  refine r_sld hX (by omega) (pc := 1209) dL_law_1209 ?_
  refine iv_L_147 hC6 (pc := 1210) dL_law_1210 rfl ⟨Nat.le_of_ble_eq_true rfl, Nat.le_of_ble_eq_true rfl⟩ (Nat.le_of_ble_eq_true rfl) hcs (fun v2 M2 hp2 => ?_)
  obtain ⟨rfl, hI2⟩ := h6 v2 M2 hp2
  show V κ cL_law RL 4 ret room_1 Q M2 1213 [some (.ref b), some (.ref (gA κ.G 14)), some (.ref (gA κ.G 0)), some (.int (nI i))] [.int r, .int r]
  exact r_icmp_eq (tgt := 1572) (pc := 1213) dL_law_1213 (by decide) (fun _ => hk M2 hI2) (fun h => absurd rfl h)
set_option maxHeartbeats 4000000 in
set_option maxRecDepth 100000 in
/-- guarded -/
theorem lc_32 {κ : Kx} {Q : State → Prop} {b L : Nat} {xs : Nat → Int32} (hX : Scr κ b L xs) (hcs : κ.k ≤ room_1.cells ∧ κ.n ≤ room_1.slots) {i : Nat} (hi : i + 7 ≤ L) {M : Mem} (hI : Inv M) (hk : ∀ M2, Inv M2 → V κ cL_law RL 4 ret room_1 Q M2 1572 [some (.ref b), some (.ref (gA κ.G 14)), some (.ref (gA κ.G 0)), some (.int (nI i))] []) : V κ cL_law RL 4 ret room_1 Q M 1218 [some (.ref b), some (.ref (gA κ.G 14)), some (.ref (gA κ.G 0)), some (.int (nI i))] [] := by
  have hL := hX.2.2.2
  refine r_aload_n (pc := 1218) dL_law_1218 rfl ?_
  refine r_aload_n (pc := 1219) dL_law_1219 rfl ?_
  refine r_iload_n (pc := 1220) dL_law_1220 rfl ?_
  refine r_iconst (v := nI 1) (pc := 1221) dL_law_1221 (by decide) ?_
  refine r_iaddN (pc := 1222) dL_law_1222 ?_
  refine r_sld hX (by omega) (pc := 1223) dL_law_1223 ?_
  refine r_aload_n (pc := 1224) dL_law_1224 rfl ?_
  refine r_iload_n (pc := 1225) dL_law_1225 rfl ?_
  refine r_iconst (v := nI 2) (pc := 1226) dL_law_1226 (by decide) ?_
  refine r_iaddN (pc := 1227) dL_law_1227 ?_
  refine r_sld hX (by omega) (pc := 1228) dL_law_1228 ?_
  refine r_aload_n (pc := 1229) dL_law_1229 rfl ?_
  refine r_iload_n (pc := 1230) dL_law_1230 rfl ?_
  refine r_iconst (v := nI 3) (pc := 1231) dL_law_1231 (by decide) ?_
  refine r_iaddN (pc := 1232) dL_law_1232 ?_
  refine r_sld hX (by omega) (pc := 1233) dL_law_1233 ?_
  refine r_aload_n (pc := 1234) dL_law_1234 rfl ?_
  refine r_iload_n (pc := 1235) dL_law_1235 rfl ?_
  refine r_iconst (v := nI 4) (pc := 1236) dL_law_1236 (by decide) ?_
  refine r_iaddN (pc := 1237) dL_law_1237 ?_
  refine r_sld hX (by omega) (pc := 1238) dL_law_1238 ?_
  obtain ⟨P5, hC5, h5⟩ := s_guarded κ.l κ.G M (xs (i + 1)) (xs (i + 2)) (xs (i + 3)) (xs (i + 4)) hI
  refine iv_L_148 hC5 (pc := 1239) dL_law_1239 rfl ⟨Nat.le_of_ble_eq_true rfl, Nat.le_of_ble_eq_true rfl⟩ (Nat.le_of_ble_eq_true rfl) hcs (fun v M1 hp => ?_)
  obtain ⟨r, rfl, P6, hC6, h6⟩ := h5 v M1 hp
  show V κ cL_law RL 4 ret room_1 Q M1 1242 [some (.ref b), some (.ref (gA κ.G 14)), some (.ref (gA κ.G 0)), some (.int (nI i))] [.int r]
  refine r_aload_n (pc := 1242) dL_law_1242 rfl ?_
  refine r_aload_n (pc := 1243) dL_law_1243 rfl ?_
  refine r_iload_n (pc := 1244) dL_law_1244 rfl ?_
  refine r_iconst (v := nI 1) (pc := 1245) dL_law_1245 (by decide) ?_
  refine r_iaddN (pc := 1246) dL_law_1246 ?_
  refine r_sld hX (by omega) (pc := 1247) dL_law_1247 ?_
  refine r_aload_n (pc := 1248) dL_law_1248 rfl ?_
  refine r_iload_n (pc := 1249) dL_law_1249 rfl ?_
  refine r_iconst (v := nI 2) (pc := 1250) dL_law_1250 (by decide) ?_
  refine r_iaddN (pc := 1251) dL_law_1251 ?_
  refine r_sld hX (by omega) (pc := 1252) dL_law_1252 ?_
  refine r_aload_n (pc := 1253) dL_law_1253 rfl ?_
  refine r_iload_n (pc := 1254) dL_law_1254 rfl ?_
  refine r_iconst (v := nI 3) (pc := 1255) dL_law_1255 (by decide) ?_
  refine r_iaddN (pc := 1256) dL_law_1256 ?_
  refine r_sld hX (by omega) (pc := 1257) dL_law_1257 ?_
  refine r_aload_n (pc := 1258) dL_law_1258 rfl ?_
  refine r_iload_n (pc := 1259) dL_law_1259 rfl ?_
  refine r_iconst (v := nI 4) (pc := 1260) dL_law_1260 (by decide) ?_
  refine r_iaddN (pc := 1261) dL_law_1261 ?_
  refine r_sld hX (by omega) (pc := 1262) dL_law_1262 ?_
  refine iv_L_151 hC6 (pc := 1263) dL_law_1263 rfl ⟨Nat.le_of_ble_eq_true rfl, Nat.le_of_ble_eq_true rfl⟩ (Nat.le_of_ble_eq_true rfl) hcs (fun v2 M2 hp2 => ?_)
  obtain ⟨rfl, hI2⟩ := h6 v2 M2 hp2
  show V κ cL_law RL 4 ret room_1 Q M2 1266 [some (.ref b), some (.ref (gA κ.G 14)), some (.ref (gA κ.G 0)), some (.int (nI i))] [.int r, .int r]
  exact r_icmp_eq (tgt := 1572) (pc := 1266) dL_law_1266 (by decide) (fun _ => hk M2 hI2) (fun h => absurd rfl h)
set_option maxHeartbeats 4000000 in
set_option maxRecDepth 100000 in
/-- doze -/
theorem lc_33 {κ : Kx} {Q : State → Prop} {b L : Nat} {xs : Nat → Int32} (hX : Scr κ b L xs) (hcs : κ.k ≤ room_1.cells ∧ κ.n ≤ room_1.slots) {i : Nat} (hi : i + 7 ≤ L) {M : Mem} (hI : Inv M) (hk : ∀ M2, Inv M2 → V κ cL_law RL 4 ret room_1 Q M2 1572 [some (.ref b), some (.ref (gA κ.G 14)), some (.ref (gA κ.G 0)), some (.int (nI i))] []) : V κ cL_law RL 4 ret room_1 Q M 1271 [some (.ref b), some (.ref (gA κ.G 14)), some (.ref (gA κ.G 0)), some (.int (nI i))] [] := by
  have hL := hX.2.2.2
  refine r_aload_n (pc := 1271) dL_law_1271 rfl ?_
  refine r_aload_n (pc := 1272) dL_law_1272 rfl ?_
  refine r_iload_n (pc := 1273) dL_law_1273 rfl ?_
  refine r_iconst (v := nI 1) (pc := 1274) dL_law_1274 (by decide) ?_
  refine r_iaddN (pc := 1275) dL_law_1275 ?_
  refine r_sld hX (by omega) (pc := 1276) dL_law_1276 ?_
  refine r_aload_n (pc := 1277) dL_law_1277 rfl ?_
  refine r_iload_n (pc := 1278) dL_law_1278 rfl ?_
  refine r_iconst (v := nI 2) (pc := 1279) dL_law_1279 (by decide) ?_
  refine r_iaddN (pc := 1280) dL_law_1280 ?_
  refine r_sld hX (by omega) (pc := 1281) dL_law_1281 ?_
  refine r_aload_n (pc := 1282) dL_law_1282 rfl ?_
  refine r_iload_n (pc := 1283) dL_law_1283 rfl ?_
  refine r_iconst (v := nI 3) (pc := 1284) dL_law_1284 (by decide) ?_
  refine r_iaddN (pc := 1285) dL_law_1285 ?_
  refine r_sld hX (by omega) (pc := 1286) dL_law_1286 ?_
  refine r_aload_n (pc := 1287) dL_law_1287 rfl ?_
  refine r_iload_n (pc := 1288) dL_law_1288 rfl ?_
  refine r_iconst (v := nI 4) (pc := 1289) dL_law_1289 (by decide) ?_
  refine r_iaddN (pc := 1290) dL_law_1290 ?_
  refine r_sld hX (by omega) (pc := 1291) dL_law_1291 ?_
  refine r_aload_n (pc := 1292) dL_law_1292 rfl ?_
  refine r_iload_n (pc := 1293) dL_law_1293 rfl ?_
  refine r_iconst (v := nI 5) (pc := 1294) dL_law_1294 (by decide) ?_
  refine r_iaddN (pc := 1295) dL_law_1295 ?_
  refine r_sld hX (by omega) (pc := 1296) dL_law_1296 ?_
  obtain ⟨P5, hC5, h5⟩ := s_doze κ.l κ.G M (xs (i + 1)) (xs (i + 2)) (xs (i + 3)) (xs (i + 4)) (xs (i + 5)) hI
  refine iv_L_152 hC5 (pc := 1297) dL_law_1297 rfl ⟨Nat.le_of_ble_eq_true rfl, Nat.le_of_ble_eq_true rfl⟩ (Nat.le_of_ble_eq_true rfl) hcs (fun v M1 hp => ?_)
  obtain ⟨r, rfl, P6, hC6, h6⟩ := h5 v M1 hp
  show V κ cL_law RL 4 ret room_1 Q M1 1300 [some (.ref b), some (.ref (gA κ.G 14)), some (.ref (gA κ.G 0)), some (.int (nI i))] [.long r]
  refine r_aload_n (pc := 1300) dL_law_1300 rfl ?_
  refine r_aload_n (pc := 1301) dL_law_1301 rfl ?_
  refine r_iload_n (pc := 1302) dL_law_1302 rfl ?_
  refine r_iconst (v := nI 1) (pc := 1303) dL_law_1303 (by decide) ?_
  refine r_iaddN (pc := 1304) dL_law_1304 ?_
  refine r_sld hX (by omega) (pc := 1305) dL_law_1305 ?_
  refine r_aload_n (pc := 1306) dL_law_1306 rfl ?_
  refine r_iload_n (pc := 1307) dL_law_1307 rfl ?_
  refine r_iconst (v := nI 2) (pc := 1308) dL_law_1308 (by decide) ?_
  refine r_iaddN (pc := 1309) dL_law_1309 ?_
  refine r_sld hX (by omega) (pc := 1310) dL_law_1310 ?_
  refine r_aload_n (pc := 1311) dL_law_1311 rfl ?_
  refine r_iload_n (pc := 1312) dL_law_1312 rfl ?_
  refine r_iconst (v := nI 3) (pc := 1313) dL_law_1313 (by decide) ?_
  refine r_iaddN (pc := 1314) dL_law_1314 ?_
  refine r_sld hX (by omega) (pc := 1315) dL_law_1315 ?_
  refine r_aload_n (pc := 1316) dL_law_1316 rfl ?_
  refine r_iload_n (pc := 1317) dL_law_1317 rfl ?_
  refine r_iconst (v := nI 4) (pc := 1318) dL_law_1318 (by decide) ?_
  refine r_iaddN (pc := 1319) dL_law_1319 ?_
  refine r_sld hX (by omega) (pc := 1320) dL_law_1320 ?_
  refine r_aload_n (pc := 1321) dL_law_1321 rfl ?_
  refine r_iload_n (pc := 1322) dL_law_1322 rfl ?_
  refine r_iconst (v := nI 5) (pc := 1323) dL_law_1323 (by decide) ?_
  refine r_iaddN (pc := 1324) dL_law_1324 ?_
  refine r_sld hX (by omega) (pc := 1325) dL_law_1325 ?_
  refine iv_L_156 hC6 (pc := 1326) dL_law_1326 rfl ⟨Nat.le_of_ble_eq_true rfl, Nat.le_of_ble_eq_true rfl⟩ (Nat.le_of_ble_eq_true rfl) hcs (fun v2 M2 hp2 => ?_)
  obtain ⟨rfl, hI2⟩ := h6 v2 M2 hp2
  show V κ cL_law RL 4 ret room_1 Q M2 1329 [some (.ref b), some (.ref (gA κ.G 14)), some (.ref (gA κ.G 0)), some (.int (nI i))] [.long r, .long r]
  refine r_lcmp (pc := 1329) dL_law_1329 ?_
  exact r_if_eq (tgt := 1572) (pc := 1330) dL_law_1330 (by decide) (fun _ => hk M2 hI2) (fun h => absurd ((lg_cmp_eq _ _).mpr rfl) h)
set_option maxHeartbeats 4000000 in
set_option maxRecDepth 100000 in
/-- drawn -/
theorem lc_34 {κ : Kx} {Q : State → Prop} {b L : Nat} {xs : Nat → Int32} (hX : Scr κ b L xs) (hcs : κ.k ≤ room_1.cells ∧ κ.n ≤ room_1.slots) {i : Nat} (hi : i + 7 ≤ L) {M : Mem} (hI : Inv M) (hk : ∀ M2, Inv M2 → V κ cL_law RL 4 ret room_1 Q M2 1572 [some (.ref b), some (.ref (gA κ.G 14)), some (.ref (gA κ.G 0)), some (.int (nI i))] []) : V κ cL_law RL 4 ret room_1 Q M 1335 [some (.ref b), some (.ref (gA κ.G 14)), some (.ref (gA κ.G 0)), some (.int (nI i))] [] := by
  have hL := hX.2.2.2
  refine r_aload_n (pc := 1335) dL_law_1335 rfl ?_
  refine r_aload_n (pc := 1336) dL_law_1336 rfl ?_
  refine r_iload_n (pc := 1337) dL_law_1337 rfl ?_
  refine r_iconst (v := nI 1) (pc := 1338) dL_law_1338 (by decide) ?_
  refine r_iaddN (pc := 1339) dL_law_1339 ?_
  refine r_sld hX (by omega) (pc := 1340) dL_law_1340 ?_
  refine r_aload_n (pc := 1341) dL_law_1341 rfl ?_
  refine r_iload_n (pc := 1342) dL_law_1342 rfl ?_
  refine r_iconst (v := nI 2) (pc := 1343) dL_law_1343 (by decide) ?_
  refine r_iaddN (pc := 1344) dL_law_1344 ?_
  refine r_sld hX (by omega) (pc := 1345) dL_law_1345 ?_
  refine r_aload_n (pc := 1346) dL_law_1346 rfl ?_
  refine r_iload_n (pc := 1347) dL_law_1347 rfl ?_
  refine r_iconst (v := nI 3) (pc := 1348) dL_law_1348 (by decide) ?_
  refine r_iaddN (pc := 1349) dL_law_1349 ?_
  refine r_sld hX (by omega) (pc := 1350) dL_law_1350 ?_
  obtain ⟨P5, hC5, h5⟩ := s_drawn κ.l κ.G M (xs (i + 1)) (xs (i + 2)) (xs (i + 3)) hI
  refine iv_L_157 hC5 (pc := 1351) dL_law_1351 rfl ⟨Nat.le_of_ble_eq_true rfl, Nat.le_of_ble_eq_true rfl⟩ (Nat.le_of_ble_eq_true rfl) hcs (fun v M1 hp => ?_)
  obtain ⟨r, rfl, P6, hC6, h6⟩ := h5 v M1 hp
  show V κ cL_law RL 4 ret room_1 Q M1 1354 [some (.ref b), some (.ref (gA κ.G 14)), some (.ref (gA κ.G 0)), some (.int (nI i))] [.int r]
  refine r_aload_n (pc := 1354) dL_law_1354 rfl ?_
  refine r_aload_n (pc := 1355) dL_law_1355 rfl ?_
  refine r_iload_n (pc := 1356) dL_law_1356 rfl ?_
  refine r_iconst (v := nI 1) (pc := 1357) dL_law_1357 (by decide) ?_
  refine r_iaddN (pc := 1358) dL_law_1358 ?_
  refine r_sld hX (by omega) (pc := 1359) dL_law_1359 ?_
  refine r_aload_n (pc := 1360) dL_law_1360 rfl ?_
  refine r_iload_n (pc := 1361) dL_law_1361 rfl ?_
  refine r_iconst (v := nI 2) (pc := 1362) dL_law_1362 (by decide) ?_
  refine r_iaddN (pc := 1363) dL_law_1363 ?_
  refine r_sld hX (by omega) (pc := 1364) dL_law_1364 ?_
  refine r_aload_n (pc := 1365) dL_law_1365 rfl ?_
  refine r_iload_n (pc := 1366) dL_law_1366 rfl ?_
  refine r_iconst (v := nI 3) (pc := 1367) dL_law_1367 (by decide) ?_
  refine r_iaddN (pc := 1368) dL_law_1368 ?_
  refine r_sld hX (by omega) (pc := 1369) dL_law_1369 ?_
  refine iv_L_160 hC6 (pc := 1370) dL_law_1370 rfl ⟨Nat.le_of_ble_eq_true rfl, Nat.le_of_ble_eq_true rfl⟩ (Nat.le_of_ble_eq_true rfl) hcs (fun v2 M2 hp2 => ?_)
  obtain ⟨rfl, hI2⟩ := h6 v2 M2 hp2
  show V κ cL_law RL 4 ret room_1 Q M2 1373 [some (.ref b), some (.ref (gA κ.G 14)), some (.ref (gA κ.G 0)), some (.int (nI i))] [.int r, .int r]
  exact r_icmp_eq (tgt := 1572) (pc := 1373) dL_law_1373 (by decide) (fun _ => hk M2 hI2) (fun h => absurd rfl h)
set_option maxHeartbeats 4000000 in
set_option maxRecDepth 100000 in
/-- image -/
theorem lc_35 {κ : Kx} {Q : State → Prop} {b L : Nat} {xs : Nat → Int32} (hX : Scr κ b L xs) (hcs : κ.k ≤ room_1.cells ∧ κ.n ≤ room_1.slots) {i : Nat} (hi : i + 7 ≤ L) {M : Mem} (hI : Inv M) (hk : ∀ M2, Inv M2 → V κ cL_law RL 4 ret room_1 Q M2 1572 [some (.ref b), some (.ref (gA κ.G 14)), some (.ref (gA κ.G 0)), some (.int (nI i))] []) : V κ cL_law RL 4 ret room_1 Q M 1378 [some (.ref b), some (.ref (gA κ.G 14)), some (.ref (gA κ.G 0)), some (.int (nI i))] [] := by
  have hL := hX.2.2.2
  refine r_aload_n (pc := 1378) dL_law_1378 rfl ?_
  refine r_aload_n (pc := 1379) dL_law_1379 rfl ?_
  refine r_iload_n (pc := 1380) dL_law_1380 rfl ?_
  refine r_iconst (v := nI 1) (pc := 1381) dL_law_1381 (by decide) ?_
  refine r_iaddN (pc := 1382) dL_law_1382 ?_
  refine r_sld hX (by omega) (pc := 1383) dL_law_1383 ?_
  obtain ⟨P5, hC5, h5⟩ := s_image κ.l κ.G M (xs (i + 1)) hI
  refine iv_L_161 hC5 (pc := 1384) dL_law_1384 rfl ⟨Nat.le_of_ble_eq_true rfl, Nat.le_of_ble_eq_true rfl⟩ (Nat.le_of_ble_eq_true rfl) hcs (fun v M1 hp => ?_)
  obtain ⟨r, rfl, P6, hC6, h6⟩ := h5 v M1 hp
  show V κ cL_law RL 4 ret room_1 Q M1 1387 [some (.ref b), some (.ref (gA κ.G 14)), some (.ref (gA κ.G 0)), some (.int (nI i))] [.int r]
  refine r_aload_n (pc := 1387) dL_law_1387 rfl ?_
  refine r_aload_n (pc := 1388) dL_law_1388 rfl ?_
  refine r_iload_n (pc := 1389) dL_law_1389 rfl ?_
  refine r_iconst (v := nI 1) (pc := 1390) dL_law_1390 (by decide) ?_
  refine r_iaddN (pc := 1391) dL_law_1391 ?_
  refine r_sld hX (by omega) (pc := 1392) dL_law_1392 ?_
  refine iv_L_164 hC6 (pc := 1393) dL_law_1393 rfl ⟨Nat.le_of_ble_eq_true rfl, Nat.le_of_ble_eq_true rfl⟩ (Nat.le_of_ble_eq_true rfl) hcs (fun v2 M2 hp2 => ?_)
  obtain ⟨rfl, hI2⟩ := h6 v2 M2 hp2
  show V κ cL_law RL 4 ret room_1 Q M2 1396 [some (.ref b), some (.ref (gA κ.G 14)), some (.ref (gA κ.G 0)), some (.int (nI i))] [.int r, .int r]
  exact r_icmp_eq (tgt := 1572) (pc := 1396) dL_law_1396 (by decide) (fun _ => hk M2 hI2) (fun h => absurd rfl h)
set_option maxHeartbeats 4000000 in
set_option maxRecDepth 100000 in
/-- restore -/
theorem lc_36 {κ : Kx} {Q : State → Prop} {b L : Nat} {xs : Nat → Int32} (hX : Scr κ b L xs) (hcs : κ.k ≤ room_1.cells ∧ κ.n ≤ room_1.slots) {i : Nat} (hi : i + 7 ≤ L) {M : Mem} (hI : Inv M) (hk : ∀ M2, Inv M2 → V κ cL_law RL 4 ret room_1 Q M2 1572 [some (.ref b), some (.ref (gA κ.G 14)), some (.ref (gA κ.G 0)), some (.int (nI i))] []) : V κ cL_law RL 4 ret room_1 Q M 1401 [some (.ref b), some (.ref (gA κ.G 14)), some (.ref (gA κ.G 0)), some (.int (nI i))] [] := by
  have hL := hX.2.2.2
  refine r_aload_n (pc := 1401) dL_law_1401 rfl ?_
  refine r_aload_n (pc := 1402) dL_law_1402 rfl ?_
  refine r_iload_n (pc := 1403) dL_law_1403 rfl ?_
  refine r_iconst (v := nI 1) (pc := 1404) dL_law_1404 (by decide) ?_
  refine r_iaddN (pc := 1405) dL_law_1405 ?_
  refine r_sld hX (by omega) (pc := 1406) dL_law_1406 ?_
  obtain ⟨P5, hC5, h5⟩ := s_restore κ.l κ.G M (xs (i + 1)) hI
  refine iv_L_165 hC5 (pc := 1407) dL_law_1407 rfl ⟨Nat.le_of_ble_eq_true rfl, Nat.le_of_ble_eq_true rfl⟩ (Nat.le_of_ble_eq_true rfl) hcs (fun v M1 hp => ?_)
  obtain ⟨r, rfl, P6, hC6, h6⟩ := h5 v M1 hp
  show V κ cL_law RL 4 ret room_1 Q M1 1410 [some (.ref b), some (.ref (gA κ.G 14)), some (.ref (gA κ.G 0)), some (.int (nI i))] [.int r]
  refine r_aload_n (pc := 1410) dL_law_1410 rfl ?_
  refine r_aload_n (pc := 1411) dL_law_1411 rfl ?_
  refine r_iload_n (pc := 1412) dL_law_1412 rfl ?_
  refine r_iconst (v := nI 1) (pc := 1413) dL_law_1413 (by decide) ?_
  refine r_iaddN (pc := 1414) dL_law_1414 ?_
  refine r_sld hX (by omega) (pc := 1415) dL_law_1415 ?_
  refine iv_L_168 hC6 (pc := 1416) dL_law_1416 rfl ⟨Nat.le_of_ble_eq_true rfl, Nat.le_of_ble_eq_true rfl⟩ (Nat.le_of_ble_eq_true rfl) hcs (fun v2 M2 hp2 => ?_)
  obtain ⟨rfl, hI2⟩ := h6 v2 M2 hp2
  show V κ cL_law RL 4 ret room_1 Q M2 1419 [some (.ref b), some (.ref (gA κ.G 14)), some (.ref (gA κ.G 0)), some (.int (nI i))] [.int r, .int r]
  exact r_icmp_eq (tgt := 1572) (pc := 1419) dL_law_1419 (by decide) (fun _ => hk M2 hI2) (fun h => absurd rfl h)
set_option maxHeartbeats 4000000 in
set_option maxRecDepth 100000 in
/-- kind -/
theorem lc_37 {κ : Kx} {Q : State → Prop} {b L : Nat} {xs : Nat → Int32} (hX : Scr κ b L xs) (hcs : κ.k ≤ room_1.cells ∧ κ.n ≤ room_1.slots) {i : Nat} (hi : i + 7 ≤ L) {M : Mem} (hI : Inv M) (hk : ∀ M2, Inv M2 → V κ cL_law RL 4 ret room_1 Q M2 1572 [some (.ref b), some (.ref (gA κ.G 14)), some (.ref (gA κ.G 0)), some (.int (nI i))] []) : V κ cL_law RL 4 ret room_1 Q M 1424 [some (.ref b), some (.ref (gA κ.G 14)), some (.ref (gA κ.G 0)), some (.int (nI i))] [] := by
  have hL := hX.2.2.2
  refine r_aload_n (pc := 1424) dL_law_1424 rfl ?_
  refine r_aload_n (pc := 1425) dL_law_1425 rfl ?_
  refine r_iload_n (pc := 1426) dL_law_1426 rfl ?_
  refine r_iconst (v := nI 1) (pc := 1427) dL_law_1427 (by decide) ?_
  refine r_iaddN (pc := 1428) dL_law_1428 ?_
  refine r_sld hX (by omega) (pc := 1429) dL_law_1429 ?_
  obtain ⟨P5, hC5, h5⟩ := s_kind κ.l κ.G M (xs (i + 1)) hI
  refine iv_L_169 hC5 (pc := 1430) dL_law_1430 rfl ⟨Nat.le_of_ble_eq_true rfl, Nat.le_of_ble_eq_true rfl⟩ (Nat.le_of_ble_eq_true rfl) hcs (fun v M1 hp => ?_)
  obtain ⟨r, rfl, P6, hC6, h6⟩ := h5 v M1 hp
  show V κ cL_law RL 4 ret room_1 Q M1 1433 [some (.ref b), some (.ref (gA κ.G 14)), some (.ref (gA κ.G 0)), some (.int (nI i))] [.int r]
  refine r_aload_n (pc := 1433) dL_law_1433 rfl ?_
  refine r_aload_n (pc := 1434) dL_law_1434 rfl ?_
  refine r_iload_n (pc := 1435) dL_law_1435 rfl ?_
  refine r_iconst (v := nI 1) (pc := 1436) dL_law_1436 (by decide) ?_
  refine r_iaddN (pc := 1437) dL_law_1437 ?_
  refine r_sld hX (by omega) (pc := 1438) dL_law_1438 ?_
  refine iv_L_172 hC6 (pc := 1439) dL_law_1439 rfl ⟨Nat.le_of_ble_eq_true rfl, Nat.le_of_ble_eq_true rfl⟩ (Nat.le_of_ble_eq_true rfl) hcs (fun v2 M2 hp2 => ?_)
  obtain ⟨rfl, hI2⟩ := h6 v2 M2 hp2
  show V κ cL_law RL 4 ret room_1 Q M2 1442 [some (.ref b), some (.ref (gA κ.G 14)), some (.ref (gA κ.G 0)), some (.int (nI i))] [.int r, .int r]
  exact r_icmp_eq (tgt := 1572) (pc := 1442) dL_law_1442 (by decide) (fun _ => hk M2 hI2) (fun h => absurd rfl h)
set_option maxHeartbeats 4000000 in
set_option maxRecDepth 100000 in
/-- as -/
theorem lc_38 {κ : Kx} {Q : State → Prop} {b L : Nat} {xs : Nat → Int32} (hX : Scr κ b L xs) (hcs : κ.k ≤ room_1.cells ∧ κ.n ≤ room_1.slots) {i : Nat} (hi : i + 7 ≤ L) {M : Mem} (hI : Inv M) (hk : ∀ M2, Inv M2 → V κ cL_law RL 4 ret room_1 Q M2 1572 [some (.ref b), some (.ref (gA κ.G 14)), some (.ref (gA κ.G 0)), some (.int (nI i))] []) : V κ cL_law RL 4 ret room_1 Q M 1447 [some (.ref b), some (.ref (gA κ.G 14)), some (.ref (gA κ.G 0)), some (.int (nI i))] [] := by
  have hL := hX.2.2.2
  refine r_aload_n (pc := 1447) dL_law_1447 rfl ?_
  refine r_aload_n (pc := 1448) dL_law_1448 rfl ?_
  refine r_iload_n (pc := 1449) dL_law_1449 rfl ?_
  refine r_iconst (v := nI 1) (pc := 1450) dL_law_1450 (by decide) ?_
  refine r_iaddN (pc := 1451) dL_law_1451 ?_
  refine r_sld hX (by omega) (pc := 1452) dL_law_1452 ?_
  refine r_aload_n (pc := 1453) dL_law_1453 rfl ?_
  refine r_iload_n (pc := 1454) dL_law_1454 rfl ?_
  refine r_iconst (v := nI 2) (pc := 1455) dL_law_1455 (by decide) ?_
  refine r_iaddN (pc := 1456) dL_law_1456 ?_
  refine r_sld hX (by omega) (pc := 1457) dL_law_1457 ?_
  obtain ⟨P5, hC5, h5⟩ := s_as κ.l κ.G M (xs (i + 1)) (xs (i + 2)) hI
  refine iv_L_173 hC5 (pc := 1458) dL_law_1458 rfl ⟨Nat.le_of_ble_eq_true rfl, Nat.le_of_ble_eq_true rfl⟩ (Nat.le_of_ble_eq_true rfl) hcs (fun v M1 hp => ?_)
  obtain ⟨r, rfl, P6, hC6, h6⟩ := h5 v M1 hp
  show V κ cL_law RL 4 ret room_1 Q M1 1461 [some (.ref b), some (.ref (gA κ.G 14)), some (.ref (gA κ.G 0)), some (.int (nI i))] [.int r]
  refine r_aload_n (pc := 1461) dL_law_1461 rfl ?_
  refine r_aload_n (pc := 1462) dL_law_1462 rfl ?_
  refine r_iload_n (pc := 1463) dL_law_1463 rfl ?_
  refine r_iconst (v := nI 1) (pc := 1464) dL_law_1464 (by decide) ?_
  refine r_iaddN (pc := 1465) dL_law_1465 ?_
  refine r_sld hX (by omega) (pc := 1466) dL_law_1466 ?_
  refine r_aload_n (pc := 1467) dL_law_1467 rfl ?_
  refine r_iload_n (pc := 1468) dL_law_1468 rfl ?_
  refine r_iconst (v := nI 2) (pc := 1469) dL_law_1469 (by decide) ?_
  refine r_iaddN (pc := 1470) dL_law_1470 ?_
  refine r_sld hX (by omega) (pc := 1471) dL_law_1471 ?_
  refine iv_L_176 hC6 (pc := 1472) dL_law_1472 rfl ⟨Nat.le_of_ble_eq_true rfl, Nat.le_of_ble_eq_true rfl⟩ (Nat.le_of_ble_eq_true rfl) hcs (fun v2 M2 hp2 => ?_)
  obtain ⟨rfl, hI2⟩ := h6 v2 M2 hp2
  show V κ cL_law RL 4 ret room_1 Q M2 1475 [some (.ref b), some (.ref (gA κ.G 14)), some (.ref (gA κ.G 0)), some (.int (nI i))] [.int r, .int r]
  exact r_icmp_eq (tgt := 1572) (pc := 1475) dL_law_1475 (by decide) (fun _ => hk M2 hI2) (fun h => absurd rfl h)
set_option maxHeartbeats 4000000 in
set_option maxRecDepth 100000 in
/-- ask -/
theorem lc_39 {κ : Kx} {Q : State → Prop} {b L : Nat} {xs : Nat → Int32} (hX : Scr κ b L xs) (hcs : κ.k ≤ room_1.cells ∧ κ.n ≤ room_1.slots) {i : Nat} (hi : i + 7 ≤ L) {M : Mem} (hI : Inv M) (hk : ∀ M2, Inv M2 → V κ cL_law RL 4 ret room_1 Q M2 1572 [some (.ref b), some (.ref (gA κ.G 14)), some (.ref (gA κ.G 0)), some (.int (nI i))] []) : V κ cL_law RL 4 ret room_1 Q M 1480 [some (.ref b), some (.ref (gA κ.G 14)), some (.ref (gA κ.G 0)), some (.int (nI i))] [] := by
  have hL := hX.2.2.2
  refine r_aload_n (pc := 1480) dL_law_1480 rfl ?_
  refine r_aload_n (pc := 1481) dL_law_1481 rfl ?_
  refine r_iload_n (pc := 1482) dL_law_1482 rfl ?_
  refine r_iconst (v := nI 1) (pc := 1483) dL_law_1483 (by decide) ?_
  refine r_iaddN (pc := 1484) dL_law_1484 ?_
  refine r_sld hX (by omega) (pc := 1485) dL_law_1485 ?_
  refine r_aload_n (pc := 1486) dL_law_1486 rfl ?_
  refine r_iload_n (pc := 1487) dL_law_1487 rfl ?_
  refine r_iconst (v := nI 2) (pc := 1488) dL_law_1488 (by decide) ?_
  refine r_iaddN (pc := 1489) dL_law_1489 ?_
  refine r_sld hX (by omega) (pc := 1490) dL_law_1490 ?_
  obtain ⟨P5, hC5, h5⟩ := s_ask κ.l κ.G M (xs (i + 1)) (xs (i + 2)) hI
  refine iv_L_177 hC5 (pc := 1491) dL_law_1491 rfl ⟨Nat.le_of_ble_eq_true rfl, Nat.le_of_ble_eq_true rfl⟩ (Nat.le_of_ble_eq_true rfl) hcs (fun v M1 hp => ?_)
  obtain ⟨r, rfl, P6, hC6, h6⟩ := h5 v M1 hp
  show V κ cL_law RL 4 ret room_1 Q M1 1494 [some (.ref b), some (.ref (gA κ.G 14)), some (.ref (gA κ.G 0)), some (.int (nI i))] [.int r]
  refine r_aload_n (pc := 1494) dL_law_1494 rfl ?_
  refine r_aload_n (pc := 1495) dL_law_1495 rfl ?_
  refine r_iload_n (pc := 1496) dL_law_1496 rfl ?_
  refine r_iconst (v := nI 1) (pc := 1497) dL_law_1497 (by decide) ?_
  refine r_iaddN (pc := 1498) dL_law_1498 ?_
  refine r_sld hX (by omega) (pc := 1499) dL_law_1499 ?_
  refine r_aload_n (pc := 1500) dL_law_1500 rfl ?_
  refine r_iload_n (pc := 1501) dL_law_1501 rfl ?_
  refine r_iconst (v := nI 2) (pc := 1502) dL_law_1502 (by decide) ?_
  refine r_iaddN (pc := 1503) dL_law_1503 ?_
  refine r_sld hX (by omega) (pc := 1504) dL_law_1504 ?_
  refine iv_L_180 hC6 (pc := 1505) dL_law_1505 rfl ⟨Nat.le_of_ble_eq_true rfl, Nat.le_of_ble_eq_true rfl⟩ (Nat.le_of_ble_eq_true rfl) hcs (fun v2 M2 hp2 => ?_)
  obtain ⟨rfl, hI2⟩ := h6 v2 M2 hp2
  show V κ cL_law RL 4 ret room_1 Q M2 1508 [some (.ref b), some (.ref (gA κ.G 14)), some (.ref (gA κ.G 0)), some (.int (nI i))] [.int r, .int r]
  exact r_icmp_eq (tgt := 1572) (pc := 1508) dL_law_1508 (by decide) (fun _ => hk M2 hI2) (fun h => absurd rfl h)
set_option maxHeartbeats 4000000 in
set_option maxRecDepth 100000 in
/-- trace -/
theorem lc_40 {κ : Kx} {Q : State → Prop} {b L : Nat} {xs : Nat → Int32} (hX : Scr κ b L xs) (hcs : κ.k ≤ room_1.cells ∧ κ.n ≤ room_1.slots) {i : Nat} (hi : i + 7 ≤ L) {M : Mem} (hI : Inv M) (hk : ∀ M2, Inv M2 → V κ cL_law RL 4 ret room_1 Q M2 1572 [some (.ref b), some (.ref (gA κ.G 14)), some (.ref (gA κ.G 0)), some (.int (nI i))] []) : V κ cL_law RL 4 ret room_1 Q M 1513 [some (.ref b), some (.ref (gA κ.G 14)), some (.ref (gA κ.G 0)), some (.int (nI i))] [] := by
  have hL := hX.2.2.2
  refine r_aload_n (pc := 1513) dL_law_1513 rfl ?_
  refine r_aload_n (pc := 1514) dL_law_1514 rfl ?_
  refine r_iload_n (pc := 1515) dL_law_1515 rfl ?_
  refine r_iconst (v := nI 1) (pc := 1516) dL_law_1516 (by decide) ?_
  refine r_iaddN (pc := 1517) dL_law_1517 ?_
  refine r_sld hX (by omega) (pc := 1518) dL_law_1518 ?_
  obtain ⟨P5, hC5, h5⟩ := s_trace κ.l κ.G M (xs (i + 1)) hI
  refine iv_L_181 hC5 (pc := 1519) dL_law_1519 rfl ⟨Nat.le_of_ble_eq_true rfl, Nat.le_of_ble_eq_true rfl⟩ (Nat.le_of_ble_eq_true rfl) hcs (fun v M1 hp => ?_)
  obtain ⟨r, rfl, P6, hC6, h6⟩ := h5 v M1 hp
  show V κ cL_law RL 4 ret room_1 Q M1 1522 [some (.ref b), some (.ref (gA κ.G 14)), some (.ref (gA κ.G 0)), some (.int (nI i))] [.int r]
  refine r_aload_n (pc := 1522) dL_law_1522 rfl ?_
  refine r_aload_n (pc := 1523) dL_law_1523 rfl ?_
  refine r_iload_n (pc := 1524) dL_law_1524 rfl ?_
  refine r_iconst (v := nI 1) (pc := 1525) dL_law_1525 (by decide) ?_
  refine r_iaddN (pc := 1526) dL_law_1526 ?_
  refine r_sld hX (by omega) (pc := 1527) dL_law_1527 ?_
  refine iv_L_184 hC6 (pc := 1528) dL_law_1528 rfl ⟨Nat.le_of_ble_eq_true rfl, Nat.le_of_ble_eq_true rfl⟩ (Nat.le_of_ble_eq_true rfl) hcs (fun v2 M2 hp2 => ?_)
  obtain ⟨rfl, hI2⟩ := h6 v2 M2 hp2
  show V κ cL_law RL 4 ret room_1 Q M2 1531 [some (.ref b), some (.ref (gA κ.G 14)), some (.ref (gA κ.G 0)), some (.int (nI i))] [.int r, .int r]
  exact r_icmp_eq (tgt := 1572) (pc := 1531) dL_law_1531 (by decide) (fun _ => hk M2 hI2) (fun h => absurd rfl h)
set_option maxHeartbeats 4000000 in
set_option maxRecDepth 100000 in
/-- count -/
theorem lc_41 {κ : Kx} {Q : State → Prop} {b L : Nat} {xs : Nat → Int32} (hX : Scr κ b L xs) (hcs : κ.k ≤ room_1.cells ∧ κ.n ≤ room_1.slots) {i : Nat} (hi : i + 7 ≤ L) {M : Mem} (hI : Inv M) (hk : ∀ M2, Inv M2 → V κ cL_law RL 4 ret room_1 Q M2 1572 [some (.ref b), some (.ref (gA κ.G 14)), some (.ref (gA κ.G 0)), some (.int (nI i))] []) : V κ cL_law RL 4 ret room_1 Q M 1536 [some (.ref b), some (.ref (gA κ.G 14)), some (.ref (gA κ.G 0)), some (.int (nI i))] [] := by
  have hL := hX.2.2.2
  refine r_aload_n (pc := 1536) dL_law_1536 rfl ?_
  refine r_aload_n (pc := 1537) dL_law_1537 rfl ?_
  refine r_iload_n (pc := 1538) dL_law_1538 rfl ?_
  refine r_iconst (v := nI 1) (pc := 1539) dL_law_1539 (by decide) ?_
  refine r_iaddN (pc := 1540) dL_law_1540 ?_
  refine r_sld hX (by omega) (pc := 1541) dL_law_1541 ?_
  obtain ⟨P5, hC5, h5⟩ := s_count κ.l κ.G M (xs (i + 1)) hI
  refine iv_L_185 hC5 (pc := 1542) dL_law_1542 rfl ⟨Nat.le_of_ble_eq_true rfl, Nat.le_of_ble_eq_true rfl⟩ (Nat.le_of_ble_eq_true rfl) hcs (fun v M1 hp => ?_)
  obtain ⟨r, rfl, P6, hC6, h6⟩ := h5 v M1 hp
  show V κ cL_law RL 4 ret room_1 Q M1 1545 [some (.ref b), some (.ref (gA κ.G 14)), some (.ref (gA κ.G 0)), some (.int (nI i))] [.int r]
  refine r_aload_n (pc := 1545) dL_law_1545 rfl ?_
  refine r_aload_n (pc := 1546) dL_law_1546 rfl ?_
  refine r_iload_n (pc := 1547) dL_law_1547 rfl ?_
  refine r_iconst (v := nI 1) (pc := 1548) dL_law_1548 (by decide) ?_
  refine r_iaddN (pc := 1549) dL_law_1549 ?_
  refine r_sld hX (by omega) (pc := 1550) dL_law_1550 ?_
  refine iv_L_188 hC6 (pc := 1551) dL_law_1551 rfl ⟨Nat.le_of_ble_eq_true rfl, Nat.le_of_ble_eq_true rfl⟩ (Nat.le_of_ble_eq_true rfl) hcs (fun v2 M2 hp2 => ?_)
  obtain ⟨rfl, hI2⟩ := h6 v2 M2 hp2
  show V κ cL_law RL 4 ret room_1 Q M2 1554 [some (.ref b), some (.ref (gA κ.G 14)), some (.ref (gA κ.G 0)), some (.int (nI i))] [.int r, .int r]
  exact r_icmp_eq (tgt := 1572) (pc := 1554) dL_law_1554 (by decide) (fun _ => hk M2 hI2) (fun h => absurd rfl h)
set_option maxHeartbeats 4000000 in
set_option maxRecDepth 100000 in
/-- status -/
theorem lc_42 {κ : Kx} {Q : State → Prop} {b L : Nat} {xs : Nat → Int32} (hX : Scr κ b L xs) (hcs : κ.k ≤ room_1.cells ∧ κ.n ≤ room_1.slots) {i : Nat} (hi : i + 7 ≤ L) {M : Mem} (hI : Inv M) (hk : ∀ M2, Inv M2 → V κ cL_law RL 4 ret room_1 Q M2 1572 [some (.ref b), some (.ref (gA κ.G 14)), some (.ref (gA κ.G 0)), some (.int (nI i))] []) : V κ cL_law RL 4 ret room_1 Q M 1559 [some (.ref b), some (.ref (gA κ.G 14)), some (.ref (gA κ.G 0)), some (.int (nI i))] [] := by
  have hL := hX.2.2.2
  refine r_aload_n (pc := 1559) dL_law_1559 rfl ?_
  obtain ⟨P5, hC5, h5⟩ := s_status κ.l κ.G M hI
  refine iv_L_189 hC5 (pc := 1560) dL_law_1560 rfl ⟨Nat.le_of_ble_eq_true rfl, Nat.le_of_ble_eq_true rfl⟩ (Nat.le_of_ble_eq_true rfl) hcs (fun v M1 hp => ?_)
  obtain ⟨r, rfl, P6, hC6, h6⟩ := h5 v M1 hp
  show V κ cL_law RL 4 ret room_1 Q M1 1563 [some (.ref b), some (.ref (gA κ.G 14)), some (.ref (gA κ.G 0)), some (.int (nI i))] [.int r]
  refine r_aload_n (pc := 1563) dL_law_1563 rfl ?_
  refine iv_L_192 hC6 (pc := 1564) dL_law_1564 rfl ⟨Nat.le_of_ble_eq_true rfl, Nat.le_of_ble_eq_true rfl⟩ (Nat.le_of_ble_eq_true rfl) hcs (fun v2 M2 hp2 => ?_)
  obtain ⟨rfl, hI2⟩ := h6 v2 M2 hp2
  show V κ cL_law RL 4 ret room_1 Q M2 1567 [some (.ref b), some (.ref (gA κ.G 14)), some (.ref (gA κ.G 0)), some (.int (nI i))] [.int r, .int r]
  exact r_icmp_eq (tgt := 1572) (pc := 1567) dL_law_1567 (by decide) (fun _ => hk M2 hI2) (fun h => absurd rfl h)
set_option maxHeartbeats 8000000 in
set_option maxRecDepth 100000 in
theorem law_loop {κ : Kx} {Q : State → Prop} {b L : Nat} {xs : Nat → Int32} (hX : Scr κ b L xs) (hcs : κ.k ≤ room_1.cells ∧ κ.n ≤ room_1.slots) (hend : ∀ (M : Mem) (i : Nat), V κ cL_law RL 4 ret room_1 Q M 1578 [some (.ref b), some (.ref (gA κ.G 14)), some (.ref (gA κ.G 0)), some (.int (nI i))] []) (i0 : Nat) (hi0 : i0 ≤ 448) (M0 : Mem) (hI0 : Inv M0) : V κ cL_law RL 4 ret room_1 Q M0 18 [some (.ref b), some (.ref (gA κ.G 14)), some (.ref (gA κ.G 0)), some (.int (nI i0))] [] := by
  have hL := hX.2.2.2
  refine loopV (fun (σ : Nat × Mem) => V κ cL_law RL 4 ret room_1 Q σ.2 18 [some (.ref b), some (.ref (gA κ.G 14)), some (.ref (gA κ.G 0)), some (.int (nI σ.1))] []) (fun σ => σ.1 ≤ 455 ∧ Inv σ.2) (fun σ => 460 - σ.1) ?_ (i0, M0) ⟨by dsimp only; omega, hI0⟩
  rintro ⟨i, M⟩ hI9 ih
  dsimp only at hI9 ih
  obtain ⟨hi9, hI⟩ := hI9
  show V κ cL_law RL 4 ret room_1 Q M 18 [some (.ref b), some (.ref (gA κ.G 14)), some (.ref (gA κ.G 0)), some (.int (nI i))] []
  refine r_iload_n (pc := 18) dL_law_18 rfl ?_
  refine r_aload_n (pc := 19) dL_law_19 rfl ?_
  refine r_scln hX (pc := 20) dL_law_20 ?_
  refine r_bipush (v := nI 7) (pc := 21) dL_law_21 (by decide) ?_
  refine r_isub (pc := 23) dL_law_23 ?_
  refine r_icmp_gt (tgt := 1578) (pc := 24) dL_law_24 (by decide) (fun h24 => ?_) (fun h24 => ?_)
  · exact hend M i
  have hi : i + 7 ≤ L := seven hL (by omega) h24
  have hk : ∀ M2, Inv M2 → V κ cL_law RL 4 ret room_1 Q M2 1572 [some (.ref b), some (.ref (gA κ.G 14)), some (.ref (gA κ.G 0)), some (.int (nI i))] [] := by
    intro M2 hI2
    refine r_inc [_, _, _, _] (pc := 1572) dL_law_1572 rfl (nI_incN _ 7) (by decide) rfl rfl ?_
    refine r_goto (tgt := 18) (pc := 1575) dL_law_1575 (by decide) ?_
    exact ih (i + 7, M2) ⟨by dsimp only; omega, hI2⟩ (by dsimp only; omega)
  refine r_aload_n (pc := 27) dL_law_27 rfl ?_
  refine r_iload_n (pc := 28) dL_law_28 rfl ?_
  refine r_sld hX (by omega) (pc := 29) dL_law_29 ?_
  refine r_bipush (v := nI 63) (pc := 30) dL_law_30 (by decide) ?_
  refine r_iand (pc := 32) dL_law_32 ?_
  refine r_tsw (lo := 0) (hi := 42) (tgt := 1572) (pc := 33) dL_law_33 (by decide) (fun h33 => hk M hI) (fun q33 a33 b33 h33 => ?_)
  rcases (show q33 = 0 ∨ q33 = 1 ∨ q33 = 2 ∨ q33 = 3 ∨ q33 = 4 ∨ q33 = 5 ∨ q33 = 6 ∨ q33 = 7 ∨ q33 = 8 ∨ q33 = 9 ∨ q33 = 10 ∨ q33 = 11 ∨ q33 = 12 ∨ q33 = 13 ∨ q33 = 14 ∨ q33 = 15 ∨ q33 = 16 ∨ q33 = 17 ∨ q33 = 18 ∨ q33 = 19 ∨ q33 = 20 ∨ q33 = 21 ∨ q33 = 22 ∨ q33 = 23 ∨ q33 = 24 ∨ q33 = 25 ∨ q33 = 26 ∨ q33 = 27 ∨ q33 = 28 ∨ q33 = 29 ∨ q33 = 30 ∨ q33 = 31 ∨ q33 = 32 ∨ q33 = 33 ∨ q33 = 34 ∨ q33 = 35 ∨ q33 = 36 ∨ q33 = 37 ∨ q33 = 38 ∨ q33 = 39 ∨ q33 = 40 ∨ q33 = 41 ∨ q33 = 42 by omega) with rfl | rfl | rfl | rfl | rfl | rfl | rfl | rfl | rfl | rfl | rfl | rfl | rfl | rfl | rfl | rfl | rfl | rfl | rfl | rfl | rfl | rfl | rfl | rfl | rfl | rfl | rfl | rfl | rfl | rfl | rfl | rfl | rfl | rfl | rfl | rfl | rfl | rfl | rfl | rfl | rfl | rfl | rfl
  · exact r_tableIn (off := 187) (tgt := 220) (pc := 33) dL_law_33 (by decide) (by decide) rfl (by decide) (lc_0 hX hcs hi hI hk)
  · exact r_tableIn (off := 230) (tgt := 263) (pc := 33) dL_law_33 (by decide) (by decide) rfl (by decide) (lc_1 hX hcs hi hI hk)
  · exact r_tableIn (off := 273) (tgt := 306) (pc := 33) dL_law_33 (by decide) (by decide) rfl (by decide) (lc_2 hX hcs hi hI hk)
  · exact r_tableIn (off := 336) (tgt := 369) (pc := 33) dL_law_33 (by decide) (by decide) rfl (by decide) (lc_3 hX hcs hi hI hk)
  · exact r_tableIn (off := 359) (tgt := 392) (pc := 33) dL_law_33 (by decide) (by decide) rfl (by decide) (lc_4 hX hcs hi hI hk)
  · exact r_tableIn (off := 382) (tgt := 415) (pc := 33) dL_law_33 (by decide) (by decide) rfl (by decide) (lc_5 hX hcs hi hI hk)
  · exact r_tableIn (off := 395) (tgt := 428) (pc := 33) dL_law_33 (by decide) (by decide) rfl (by decide) (lc_6 hX hcs hi hI hk)
  · exact r_tableIn (off := 408) (tgt := 441) (pc := 33) dL_law_33 (by decide) (by decide) rfl (by decide) (lc_7 hX hcs hi hI hk)
  · exact r_tableIn (off := 421) (tgt := 454) (pc := 33) dL_law_33 (by decide) (by decide) rfl (by decide) (lc_8 hX hcs hi hI hk)
  · exact r_tableIn (off := 444) (tgt := 477) (pc := 33) dL_law_33 (by decide) (by decide) rfl (by decide) (lc_9 hX hcs hi hI hk)
  · exact r_tableIn (off := 477) (tgt := 510) (pc := 33) dL_law_33 (by decide) (by decide) rfl (by decide) (lc_10 hX hcs hi hI hk)
  · exact r_tableIn (off := 500) (tgt := 533) (pc := 33) dL_law_33 (by decide) (by decide) rfl (by decide) (lc_11 hX hcs hi hI hk)
  · exact r_tableIn (off := 533) (tgt := 566) (pc := 33) dL_law_33 (by decide) (by decide) rfl (by decide) (lc_12 hX hcs hi hI hk)
  · exact r_tableIn (off := 566) (tgt := 599) (pc := 33) dL_law_33 (by decide) (by decide) rfl (by decide) (lc_13 hX hcs hi hI hk)
  · exact r_tableIn (off := 599) (tgt := 632) (pc := 33) dL_law_33 (by decide) (by decide) rfl (by decide) (lc_14 hX hcs hi hI hk)
  · exact r_tableIn (off := 632) (tgt := 665) (pc := 33) dL_law_33 (by decide) (by decide) rfl (by decide) (lc_15 hX hcs hi hI hk)
  · exact r_tableIn (off := 655) (tgt := 688) (pc := 33) dL_law_33 (by decide) (by decide) rfl (by decide) (lc_16 hX hcs hi hI hk)
  · exact r_tableIn (off := 698) (tgt := 731) (pc := 33) dL_law_33 (by decide) (by decide) rfl (by decide) (lc_17 hX hcs hi hI hk)
  · exact r_tableIn (off := 721) (tgt := 754) (pc := 33) dL_law_33 (by decide) (by decide) rfl (by decide) (lc_18 hX hcs hi hI hk)
  · exact r_tableIn (off := 744) (tgt := 777) (pc := 33) dL_law_33 (by decide) (by decide) rfl (by decide) (lc_19 hX hcs hi hI hk)
  · exact r_tableIn (off := 777) (tgt := 810) (pc := 33) dL_law_33 (by decide) (by decide) rfl (by decide) (lc_20 hX hcs hi hI hk)
  · exact r_tableIn (off := 790) (tgt := 823) (pc := 33) dL_law_33 (by decide) (by decide) rfl (by decide) (lc_21 hX hcs hi hI hk)
  · exact r_tableIn (off := 833) (tgt := 866) (pc := 33) dL_law_33 (by decide) (by decide) rfl (by decide) (lc_22 hX hcs hi hI hk)
  · exact r_tableIn (off := 886) (tgt := 919) (pc := 33) dL_law_33 (by decide) (by decide) rfl (by decide) (lc_23 hX hcs hi hI hk)
  · exact r_tableIn (off := 919) (tgt := 952) (pc := 33) dL_law_33 (by decide) (by decide) rfl (by decide) (lc_24 hX hcs hi hI hk)
  · exact r_tableIn (off := 952) (tgt := 985) (pc := 33) dL_law_33 (by decide) (by decide) rfl (by decide) (lc_25 hX hcs hi hI hk)
  · exact r_tableIn (off := 985) (tgt := 1018) (pc := 33) dL_law_33 (by decide) (by decide) rfl (by decide) (lc_26 hX hcs hi hI hk)
  · exact r_tableIn (off := 1008) (tgt := 1041) (pc := 33) dL_law_33 (by decide) (by decide) rfl (by decide) (lc_27 hX hcs hi hI hk)
  · exact r_tableIn (off := 1031) (tgt := 1064) (pc := 33) dL_law_33 (by decide) (by decide) rfl (by decide) (lc_28 hX hcs hi hI hk)
  · exact r_tableIn (off := 1054) (tgt := 1087) (pc := 33) dL_law_33 (by decide) (by decide) rfl (by decide) (lc_29 hX hcs hi hI hk)
  · exact r_tableIn (off := 1067) (tgt := 1100) (pc := 33) dL_law_33 (by decide) (by decide) rfl (by decide) (lc_30 hX hcs hi hI hk)
  · exact r_tableIn (off := 1110) (tgt := 1143) (pc := 33) dL_law_33 (by decide) (by decide) rfl (by decide) (lc_31 hX hcs hi hI hk)
  · exact r_tableIn (off := 1185) (tgt := 1218) (pc := 33) dL_law_33 (by decide) (by decide) rfl (by decide) (lc_32 hX hcs hi hI hk)
  · exact r_tableIn (off := 1238) (tgt := 1271) (pc := 33) dL_law_33 (by decide) (by decide) rfl (by decide) (lc_33 hX hcs hi hI hk)
  · exact r_tableIn (off := 1302) (tgt := 1335) (pc := 33) dL_law_33 (by decide) (by decide) rfl (by decide) (lc_34 hX hcs hi hI hk)
  · exact r_tableIn (off := 1345) (tgt := 1378) (pc := 33) dL_law_33 (by decide) (by decide) rfl (by decide) (lc_35 hX hcs hi hI hk)
  · exact r_tableIn (off := 1368) (tgt := 1401) (pc := 33) dL_law_33 (by decide) (by decide) rfl (by decide) (lc_36 hX hcs hi hI hk)
  · exact r_tableIn (off := 1391) (tgt := 1424) (pc := 33) dL_law_33 (by decide) (by decide) rfl (by decide) (lc_37 hX hcs hi hI hk)
  · exact r_tableIn (off := 1414) (tgt := 1447) (pc := 33) dL_law_33 (by decide) (by decide) rfl (by decide) (lc_38 hX hcs hi hI hk)
  · exact r_tableIn (off := 1447) (tgt := 1480) (pc := 33) dL_law_33 (by decide) (by decide) rfl (by decide) (lc_39 hX hcs hi hI hk)
  · exact r_tableIn (off := 1480) (tgt := 1513) (pc := 33) dL_law_33 (by decide) (by decide) rfl (by decide) (lc_40 hX hcs hi hI hk)
  · exact r_tableIn (off := 1503) (tgt := 1536) (pc := 33) dL_law_33 (by decide) (by decide) rfl (by decide) (lc_41 hX hcs hi hI hk)
  · exact r_tableIn (off := 1526) (tgt := 1559) (pc := 33) dL_law_33 (by decide) (by decide) rfl (by decide) (lc_42 hX hcs hi hI hk)
