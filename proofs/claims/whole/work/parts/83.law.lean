abbrev YL_law : XM := (yL_law, cL_law, 4, some .boolean, 13, 474)
def SC (x : XC) (b n : Nat) (xs : Nat → Int32) : Prop := va_X b n xs (x_s x) (x_s x).heap ∧ b < (x_s x).heap.size ∧ ¬ x_A x b ∧ n < 2 ^ 31
theorem ex_sc {x : XC} {g : XG} {y0 : XM} {M : Mem} {pc : Nat} {L : List (Nat × Value)} {S : List Value} {b n j : Nat} {xs : Nat → Int32} {q : Int32} (hS9 : SC x b n xs) (hq : q = nI j) (hj : j < n) (F : XF x g y0) (d : decode (xmB y0) pc = .ok (.iaload, 1)) (k : EX x g (xmL y0) M (pc + 1) L (.int (xs j) :: S)) : EX x g (xmL y0) M pc L (.int q :: .ref b :: S) := fun H locs ls hP hD hS hl => by
  subst hq
  refine va_sld F.1 F.2.1 hS9.1 hS9.2.1 hS9.2.2.1 hS (vp_in_nI hj hS9.2.2.2) d ?_
  rw [nI_clamp (Nat.lt_trans hj hS9.2.2.2)]
  exact k H locs ls hP hD hS hl
theorem ex_scl {x : XC} {g : XG} {y0 : XM} {M : Mem} {pc : Nat} {L : List (Nat × Value)} {S : List Value} {b n : Nat} {xs : Nat → Int32} (hS9 : SC x b n xs) (F : XF x g y0) (d : decode (xmB y0) pc = .ok (.arraylength, 1)) (k : EX x g (xmL y0) M (pc + 1) L (.int (nI n) :: S)) : EX x g (xmL y0) M pc L (.ref b :: S) := fun H locs ls hP hD hS hl => va_slen F.1 F.2.1 hS9.1 hS9.2.1 hS9.2.2.1 hS d (k H locs ls hP hD hS hl)
theorem cmp_rf (v : Int64) : lg_cmp v v = 0 := cmp_eq.mpr rfl
theorem cs_L_law_15 : CSV (xmN YL_law).cls (xmF YL_law) (xmW YL_law) 15 1 YX7_feed := ⟨⟨ml_L_15, ini_X7, cd_X7_feed, by decide +kernel, by decide⟩, im_X7_feed, se_X7_feed⟩
theorem cs_L_law_19 : CSV (xmN YL_law).cls (xmF YL_law) (xmW YL_law) 19 1 YX8_feed := ⟨⟨ml_L_19, ini_X8, cd_X8_feed, by decide +kernel, by decide⟩, im_X8_feed, se_X8_feed⟩
set_option maxRecDepth 100000 in
theorem lc_0 {x : XC} {g : XG} {b n i T : Nat} {xs : Nat → Int32} {M : Mem} (F : XF x g YL_law) (hS9 : SC x b n xs) (hi : i + 5 < n) (hB : BW M T) (hT : T + 9000 < 2 ^ 31) (nx9 : ∀ M', BW M' (T + 8000) → EX x g (xmL YL_law) M' 1449 [(0, .ref b), (1, .ref (ad g 0)), (2, .ref (ad g 38)), (3, .int (nI i))] []) : EX x g (xmL YL_law) M 196 [(0, .ref b), (1, .ref (ad g 0)), (2, .ref (ad g 38)), (3, .int (nI i))] [] := by
  refine ex_aload_n F dL_law_196 rfl rfl ?_
  refine ex_aload_n F dL_law_197 rfl rfl ?_
  refine ex_iload_n F dL_law_198 rfl rfl ?_
  refine ex_iconst (v := 1) F dL_law_199 (by decide) ?_
  refine ex_iadd F dL_law_200 ?_
  refine ex_sc (j := i + 1) hS9 (nI_add i 1) (by omega) F dL_law_201 ?_
  refine ex_i2l F dL_law_202 ?_
  refine ex_bipush (v := 32) F dL_law_203 (by decide) ?_
  refine ex_lshl F dL_law_205 ?_
  refine ex_aload_n F dL_law_206 rfl rfl ?_
  refine ex_iload_n F dL_law_207 rfl rfl ?_
  refine ex_iconst (v := 2) F dL_law_208 (by decide) ?_
  refine ex_iadd F dL_law_209 ?_
  refine ex_sc (j := i + 2) hS9 (nI_add i 2) (by omega) F dL_law_210 ?_
  refine ex_i2l F dL_law_211 ?_
  refine ex_ldc2 F dL_law_212 kc_L_13 ?_
  refine ex_land F dL_law_215 ?_
  refine ex_lor F dL_law_216 ?_
  refine ex_callVi F (op_feed (l := x_l x) hB) dL_law_217 cs_L_law_15 ob_7 rfl rfl rfl rfl (Nat.le_of_ble_eq_true rfl) (fun v217 M217 h217 => ?_)
  refine ex_aload_n F dL_law_220 rfl rfl ?_
  refine ex_aload_n F dL_law_221 rfl rfl ?_
  refine ex_iload_n F dL_law_222 rfl rfl ?_
  refine ex_iconst (v := 1) F dL_law_223 (by decide) ?_
  refine ex_iadd F dL_law_224 ?_
  refine ex_sc (j := i + 1) hS9 (nI_add i 1) (by omega) F dL_law_225 ?_
  refine ex_i2l F dL_law_226 ?_
  refine ex_bipush (v := 32) F dL_law_227 (by decide) ?_
  refine ex_lshl F dL_law_229 ?_
  refine ex_aload_n F dL_law_230 rfl rfl ?_
  refine ex_iload_n F dL_law_231 rfl rfl ?_
  refine ex_iconst (v := 2) F dL_law_232 (by decide) ?_
  refine ex_iadd F dL_law_233 ?_
  refine ex_sc (j := i + 2) hS9 (nI_add i 2) (by omega) F dL_law_234 ?_
  refine ex_i2l F dL_law_235 ?_
  refine ex_ldc2 F dL_law_236 kc_L_13 ?_
  refine ex_land F dL_law_239 ?_
  refine ex_lor F dL_law_240 ?_
  refine ex_callVi F (h217) dL_law_241 cs_L_law_19 ob_8 rfl rfl rfl rfl (Nat.le_of_ble_eq_true rfl) (fun v241 M241 h241 => ?_)
  obtain ⟨rfl, hB2⟩ := h241
  refine ex_icmp_eq (t := 1449) F dL_law_244 (by decide) (fun _ => ?_) (fun c => absurd rfl c)
  exact ex_weak2 (nx9 _ hB2) ⟨rfl, rfl, rfl, rfl, trivial⟩
theorem cs_L_law_20 : CSV (xmN YL_law).cls (xmF YL_law) (xmW YL_law) 20 1 YX7_end := ⟨⟨ml_L_20, ini_X7, cd_X7_end, by decide +kernel, by decide⟩, im_X7_end, se_X7_end⟩
theorem cs_L_law_24 : CSV (xmN YL_law).cls (xmF YL_law) (xmW YL_law) 24 1 YX8_end := ⟨⟨ml_L_24, ini_X8, cd_X8_end, by decide +kernel, by decide⟩, im_X8_end, se_X8_end⟩
set_option maxRecDepth 100000 in
theorem lc_1 {x : XC} {g : XG} {b n i T : Nat} {xs : Nat → Int32} {M : Mem} (F : XF x g YL_law) (hS9 : SC x b n xs) (hi : i + 5 < n) (hB : BW M T) (hT : T + 9000 < 2 ^ 31) (nx9 : ∀ M', BW M' (T + 8000) → EX x g (xmL YL_law) M' 1449 [(0, .ref b), (1, .ref (ad g 0)), (2, .ref (ad g 38)), (3, .int (nI i))] []) : EX x g (xmL YL_law) M 249 [(0, .ref b), (1, .ref (ad g 0)), (2, .ref (ad g 38)), (3, .int (nI i))] [] := by
  refine ex_aload_n F dL_law_249 rfl rfl ?_
  refine ex_aload_n F dL_law_250 rfl rfl ?_
  refine ex_iload_n F dL_law_251 rfl rfl ?_
  refine ex_iconst (v := 1) F dL_law_252 (by decide) ?_
  refine ex_iadd F dL_law_253 ?_
  refine ex_sc (j := i + 1) hS9 (nI_add i 1) (by omega) F dL_law_254 ?_
  refine ex_callVi F (op_end (l := x_l x) hB) dL_law_255 cs_L_law_20 ob_7 rfl rfl rfl rfl (Nat.le_of_ble_eq_true rfl) (fun v255 M255 h255 => ?_)
  refine ex_aload_n F dL_law_258 rfl rfl ?_
  refine ex_aload_n F dL_law_259 rfl rfl ?_
  refine ex_iload_n F dL_law_260 rfl rfl ?_
  refine ex_iconst (v := 1) F dL_law_261 (by decide) ?_
  refine ex_iadd F dL_law_262 ?_
  refine ex_sc (j := i + 1) hS9 (nI_add i 1) (by omega) F dL_law_263 ?_
  refine ex_callVi F (h255) dL_law_264 cs_L_law_24 ob_8 rfl rfl rfl rfl (Nat.le_of_ble_eq_true rfl) (fun v264 M264 h264 => ?_)
  obtain ⟨rfl, hB2⟩ := h264
  refine ex_icmp_eq (t := 1449) F dL_law_267 (by decide) (fun _ => ?_) (fun c => absurd rfl c)
  exact ex_weak2 (nx9 _ hB2) ⟨rfl, rfl, rfl, rfl, trivial⟩
theorem cs_L_law_25 : CSV (xmN YL_law).cls (xmF YL_law) (xmW YL_law) 25 0 YX7_dairy := ⟨⟨ml_L_25, ini_X7, cd_X7_dairy, by decide +kernel, by decide⟩, im_X7_dairy, se_X7_dairy⟩
theorem cs_L_law_29 : CSV (xmN YL_law).cls (xmF YL_law) (xmW YL_law) 29 0 YX8_dairy := ⟨⟨ml_L_29, ini_X8, cd_X8_dairy, by decide +kernel, by decide⟩, im_X8_dairy, se_X8_dairy⟩
set_option maxRecDepth 100000 in
theorem lc_2 {x : XC} {g : XG} {b n i T : Nat} {xs : Nat → Int32} {M : Mem} (F : XF x g YL_law) (hS9 : SC x b n xs) (hi : i + 5 < n) (hB : BW M T) (hT : T + 9000 < 2 ^ 31) (nx9 : ∀ M', BW M' (T + 8000) → EX x g (xmL YL_law) M' 1449 [(0, .ref b), (1, .ref (ad g 0)), (2, .ref (ad g 38)), (3, .int (nI i))] []) : EX x g (xmL YL_law) M 272 [(0, .ref b), (1, .ref (ad g 0)), (2, .ref (ad g 38)), (3, .int (nI i))] [] := by
  refine ex_aload_n F dL_law_272 rfl rfl ?_
  refine ex_callVi F (op_dairy (l := x_l x) hB) dL_law_273 cs_L_law_25 ob_7 rfl rfl rfl rfl (Nat.le_of_ble_eq_true rfl) (fun v273 M273 h273 => ?_)
  refine ex_aload_n F dL_law_276 rfl rfl ?_
  refine ex_callVi F (h273) dL_law_277 cs_L_law_29 ob_8 rfl rfl rfl rfl (Nat.le_of_ble_eq_true rfl) (fun v277 M277 h277 => ?_)
  obtain ⟨rfl, hB2⟩ := h277
  refine ex_icmp_eq (t := 1449) F dL_law_280 (by decide) (fun _ => ?_) (fun c => absurd rfl c)
  exact ex_weak2 (nx9 _ hB2) ⟨rfl, rfl, rfl, rfl, trivial⟩
theorem cs_L_law_30 : CSV (xmN YL_law).cls (xmF YL_law) (xmW YL_law) 30 0 YX7_fault := ⟨⟨ml_L_30, ini_X7, cd_X7_fault, by decide +kernel, by decide⟩, im_X7_fault, se_X7_fault⟩
theorem cs_L_law_33 : CSV (xmN YL_law).cls (xmF YL_law) (xmW YL_law) 33 0 YX8_fault := ⟨⟨ml_L_33, ini_X8, cd_X8_fault, by decide +kernel, by decide⟩, im_X8_fault, se_X8_fault⟩
set_option maxRecDepth 100000 in
theorem lc_3 {x : XC} {g : XG} {b n i T : Nat} {xs : Nat → Int32} {M : Mem} (F : XF x g YL_law) (hS9 : SC x b n xs) (hi : i + 5 < n) (hB : BW M T) (hT : T + 9000 < 2 ^ 31) (nx9 : ∀ M', BW M' (T + 8000) → EX x g (xmL YL_law) M' 1449 [(0, .ref b), (1, .ref (ad g 0)), (2, .ref (ad g 38)), (3, .int (nI i))] []) : EX x g (xmL YL_law) M 285 [(0, .ref b), (1, .ref (ad g 0)), (2, .ref (ad g 38)), (3, .int (nI i))] [] := by
  refine ex_aload_n F dL_law_285 rfl rfl ?_
  refine ex_callVi F (op_fault (l := x_l x) hB) dL_law_286 cs_L_law_30 ob_7 rfl rfl rfl rfl (Nat.le_of_ble_eq_true rfl) (fun v286 M286 h286 => ?_)
  refine ex_aload_n F dL_law_289 rfl rfl ?_
  refine ex_callVi F (h286) dL_law_290 cs_L_law_33 ob_8 rfl rfl rfl rfl (Nat.le_of_ble_eq_true rfl) (fun v290 M290 h290 => ?_)
  obtain ⟨rfl, hB2⟩ := h290
  refine ex_icmp_eq (t := 1449) F dL_law_293 (by decide) (fun _ => ?_) (fun c => absurd rfl c)
  exact ex_weak2 (nx9 _ hB2) ⟨rfl, rfl, rfl, rfl, trivial⟩
theorem cs_L_law_34 : CSV (xmN YL_law).cls (xmF YL_law) (xmW YL_law) 34 1 YX7_rule := ⟨⟨ml_L_34, ini_X7, cd_X7_rule, by decide +kernel, by decide⟩, im_X7_rule, se_X7_rule⟩
theorem cs_L_law_37 : CSV (xmN YL_law).cls (xmF YL_law) (xmW YL_law) 37 1 YX8_rule := ⟨⟨ml_L_37, ini_X8, cd_X8_rule, by decide +kernel, by decide⟩, im_X8_rule, se_X8_rule⟩
set_option maxRecDepth 100000 in
theorem lc_4 {x : XC} {g : XG} {b n i T : Nat} {xs : Nat → Int32} {M : Mem} (F : XF x g YL_law) (hS9 : SC x b n xs) (hi : i + 5 < n) (hB : BW M T) (hT : T + 9000 < 2 ^ 31) (nx9 : ∀ M', BW M' (T + 8000) → EX x g (xmL YL_law) M' 1449 [(0, .ref b), (1, .ref (ad g 0)), (2, .ref (ad g 38)), (3, .int (nI i))] []) : EX x g (xmL YL_law) M 298 [(0, .ref b), (1, .ref (ad g 0)), (2, .ref (ad g 38)), (3, .int (nI i))] [] := by
  refine ex_aload_n F dL_law_298 rfl rfl ?_
  refine ex_aload_n F dL_law_299 rfl rfl ?_
  refine ex_iload_n F dL_law_300 rfl rfl ?_
  refine ex_iconst (v := 1) F dL_law_301 (by decide) ?_
  refine ex_iadd F dL_law_302 ?_
  refine ex_sc (j := i + 1) hS9 (nI_add i 1) (by omega) F dL_law_303 ?_
  refine ex_callVi F (op_rule (l := x_l x) hB) dL_law_304 cs_L_law_34 ob_7 rfl rfl rfl rfl (Nat.le_of_ble_eq_true rfl) (fun v304 M304 h304 => ?_)
  refine ex_aload_n F dL_law_307 rfl rfl ?_
  refine ex_aload_n F dL_law_308 rfl rfl ?_
  refine ex_iload_n F dL_law_309 rfl rfl ?_
  refine ex_iconst (v := 1) F dL_law_310 (by decide) ?_
  refine ex_iadd F dL_law_311 ?_
  refine ex_sc (j := i + 1) hS9 (nI_add i 1) (by omega) F dL_law_312 ?_
  refine ex_callVi F (h304) dL_law_313 cs_L_law_37 ob_8 rfl rfl rfl rfl (Nat.le_of_ble_eq_true rfl) (fun v313 M313 h313 => ?_)
  obtain ⟨rfl, hB2⟩ := h313
  refine ex_icmp_eq (t := 1449) F dL_law_316 (by decide) (fun _ => ?_) (fun c => absurd rfl c)
  exact ex_weak2 (nx9 _ hB2) ⟨rfl, rfl, rfl, rfl, trivial⟩
theorem cs_L_law_38 : CSV (xmN YL_law).cls (xmF YL_law) (xmW YL_law) 38 2 YX7_cow := ⟨⟨ml_L_38, ini_X7, cd_X7_cow, by decide +kernel, by decide⟩, im_X7_cow, se_X7_cow⟩
theorem cs_L_law_42 : CSV (xmN YL_law).cls (xmF YL_law) (xmW YL_law) 42 2 YX8_cow := ⟨⟨ml_L_42, ini_X8, cd_X8_cow, by decide +kernel, by decide⟩, im_X8_cow, se_X8_cow⟩
set_option maxRecDepth 100000 in
theorem lc_5 {x : XC} {g : XG} {b n i T : Nat} {xs : Nat → Int32} {M : Mem} (F : XF x g YL_law) (hS9 : SC x b n xs) (hi : i + 5 < n) (hB : BW M T) (hT : T + 9000 < 2 ^ 31) (nx9 : ∀ M', BW M' (T + 8000) → EX x g (xmL YL_law) M' 1449 [(0, .ref b), (1, .ref (ad g 0)), (2, .ref (ad g 38)), (3, .int (nI i))] []) : EX x g (xmL YL_law) M 321 [(0, .ref b), (1, .ref (ad g 0)), (2, .ref (ad g 38)), (3, .int (nI i))] [] := by
  refine ex_aload_n F dL_law_321 rfl rfl ?_
  refine ex_aload_n F dL_law_322 rfl rfl ?_
  refine ex_iload_n F dL_law_323 rfl rfl ?_
  refine ex_iconst (v := 1) F dL_law_324 (by decide) ?_
  refine ex_iadd F dL_law_325 ?_
  refine ex_sc (j := i + 1) hS9 (nI_add i 1) (by omega) F dL_law_326 ?_
  refine ex_aload_n F dL_law_327 rfl rfl ?_
  refine ex_iload_n F dL_law_328 rfl rfl ?_
  refine ex_iconst (v := 2) F dL_law_329 (by decide) ?_
  refine ex_iadd F dL_law_330 ?_
  refine ex_sc (j := i + 2) hS9 (nI_add i 2) (by omega) F dL_law_331 ?_
  refine ex_callVi F (op_cow (l := x_l x) hB) dL_law_332 cs_L_law_38 ob_7 rfl rfl rfl rfl (Nat.le_of_ble_eq_true rfl) (fun v332 M332 h332 => ?_)
  refine ex_aload_n F dL_law_335 rfl rfl ?_
  refine ex_aload_n F dL_law_336 rfl rfl ?_
  refine ex_iload_n F dL_law_337 rfl rfl ?_
  refine ex_iconst (v := 1) F dL_law_338 (by decide) ?_
  refine ex_iadd F dL_law_339 ?_
  refine ex_sc (j := i + 1) hS9 (nI_add i 1) (by omega) F dL_law_340 ?_
  refine ex_aload_n F dL_law_341 rfl rfl ?_
  refine ex_iload_n F dL_law_342 rfl rfl ?_
  refine ex_iconst (v := 2) F dL_law_343 (by decide) ?_
  refine ex_iadd F dL_law_344 ?_
  refine ex_sc (j := i + 2) hS9 (nI_add i 2) (by omega) F dL_law_345 ?_
  refine ex_callVi F (h332) dL_law_346 cs_L_law_42 ob_8 rfl rfl rfl rfl (Nat.le_of_ble_eq_true rfl) (fun v346 M346 h346 => ?_)
  obtain ⟨rfl, hB2⟩ := h346
  refine ex_icmp_eq (t := 1449) F dL_law_349 (by decide) (fun _ => ?_) (fun c => absurd rfl c)
  exact ex_weak2 (nx9 _ hB2) ⟨rfl, rfl, rfl, rfl, trivial⟩
theorem cs_L_law_43 : CSV (xmN YL_law).cls (xmF YL_law) (xmW YL_law) 43 2 YX7_feeds := ⟨⟨ml_L_43, ini_X7, cd_X7_feeds, by decide +kernel, by decide⟩, im_X7_feeds, se_X7_feeds⟩
theorem cs_L_law_46 : CSV (xmN YL_law).cls (xmF YL_law) (xmW YL_law) 46 2 YX8_feeds := ⟨⟨ml_L_46, ini_X8, cd_X8_feeds, by decide +kernel, by decide⟩, im_X8_feeds, se_X8_feeds⟩
set_option maxRecDepth 100000 in
theorem lc_6 {x : XC} {g : XG} {b n i T : Nat} {xs : Nat → Int32} {M : Mem} (F : XF x g YL_law) (hS9 : SC x b n xs) (hi : i + 5 < n) (hB : BW M T) (hT : T + 9000 < 2 ^ 31) (nx9 : ∀ M', BW M' (T + 8000) → EX x g (xmL YL_law) M' 1449 [(0, .ref b), (1, .ref (ad g 0)), (2, .ref (ad g 38)), (3, .int (nI i))] []) : EX x g (xmL YL_law) M 354 [(0, .ref b), (1, .ref (ad g 0)), (2, .ref (ad g 38)), (3, .int (nI i))] [] := by
  refine ex_aload_n F dL_law_354 rfl rfl ?_
  refine ex_aload_n F dL_law_355 rfl rfl ?_
  refine ex_iload_n F dL_law_356 rfl rfl ?_
  refine ex_iconst (v := 1) F dL_law_357 (by decide) ?_
  refine ex_iadd F dL_law_358 ?_
  refine ex_sc (j := i + 1) hS9 (nI_add i 1) (by omega) F dL_law_359 ?_
  refine ex_aload_n F dL_law_360 rfl rfl ?_
  refine ex_iload_n F dL_law_361 rfl rfl ?_
  refine ex_iconst (v := 2) F dL_law_362 (by decide) ?_
  refine ex_iadd F dL_law_363 ?_
  refine ex_sc (j := i + 2) hS9 (nI_add i 2) (by omega) F dL_law_364 ?_
  refine ex_callVi F (op_feeds (l := x_l x) hB) dL_law_365 cs_L_law_43 ob_7 rfl rfl rfl rfl (Nat.le_of_ble_eq_true rfl) (fun v365 M365 h365 => ?_)
  refine ex_aload_n F dL_law_368 rfl rfl ?_
  refine ex_aload_n F dL_law_369 rfl rfl ?_
  refine ex_iload_n F dL_law_370 rfl rfl ?_
  refine ex_iconst (v := 1) F dL_law_371 (by decide) ?_
  refine ex_iadd F dL_law_372 ?_
  refine ex_sc (j := i + 1) hS9 (nI_add i 1) (by omega) F dL_law_373 ?_
  refine ex_aload_n F dL_law_374 rfl rfl ?_
  refine ex_iload_n F dL_law_375 rfl rfl ?_
  refine ex_iconst (v := 2) F dL_law_376 (by decide) ?_
  refine ex_iadd F dL_law_377 ?_
  refine ex_sc (j := i + 2) hS9 (nI_add i 2) (by omega) F dL_law_378 ?_
  refine ex_callVi F (h365) dL_law_379 cs_L_law_46 ob_8 rfl rfl rfl rfl (Nat.le_of_ble_eq_true rfl) (fun v379 M379 h379 => ?_)
  obtain ⟨rfl, hB2⟩ := h379
  refine ex_icmp_eq (t := 1449) F dL_law_382 (by decide) (fun _ => ?_) (fun c => absurd rfl c)
  exact ex_weak2 (nx9 _ hB2) ⟨rfl, rfl, rfl, rfl, trivial⟩
theorem cs_L_law_47 : CSV (xmN YL_law).cls (xmF YL_law) (xmW YL_law) 47 2 YX7_fill := ⟨⟨ml_L_47, ini_X7, cd_X7_fill, by decide +kernel, by decide⟩, im_X7_fill, se_X7_fill⟩
theorem cs_L_law_50 : CSV (xmN YL_law).cls (xmF YL_law) (xmW YL_law) 50 2 YX8_fill := ⟨⟨ml_L_50, ini_X8, cd_X8_fill, by decide +kernel, by decide⟩, im_X8_fill, se_X8_fill⟩
set_option maxRecDepth 100000 in
theorem lc_7 {x : XC} {g : XG} {b n i T : Nat} {xs : Nat → Int32} {M : Mem} (F : XF x g YL_law) (hS9 : SC x b n xs) (hi : i + 5 < n) (hB : BW M T) (hT : T + 9000 < 2 ^ 31) (nx9 : ∀ M', BW M' (T + 8000) → EX x g (xmL YL_law) M' 1449 [(0, .ref b), (1, .ref (ad g 0)), (2, .ref (ad g 38)), (3, .int (nI i))] []) : EX x g (xmL YL_law) M 387 [(0, .ref b), (1, .ref (ad g 0)), (2, .ref (ad g 38)), (3, .int (nI i))] [] := by
  refine ex_aload_n F dL_law_387 rfl rfl ?_
  refine ex_aload_n F dL_law_388 rfl rfl ?_
  refine ex_iload_n F dL_law_389 rfl rfl ?_
  refine ex_iconst (v := 1) F dL_law_390 (by decide) ?_
  refine ex_iadd F dL_law_391 ?_
  refine ex_sc (j := i + 1) hS9 (nI_add i 1) (by omega) F dL_law_392 ?_
  refine ex_aload_n F dL_law_393 rfl rfl ?_
  refine ex_iload_n F dL_law_394 rfl rfl ?_
  refine ex_iconst (v := 2) F dL_law_395 (by decide) ?_
  refine ex_iadd F dL_law_396 ?_
  refine ex_sc (j := i + 2) hS9 (nI_add i 2) (by omega) F dL_law_397 ?_
  refine ex_callVi F (op_fill (l := x_l x) hB) dL_law_398 cs_L_law_47 ob_7 rfl rfl rfl rfl (Nat.le_of_ble_eq_true rfl) (fun v398 M398 h398 => ?_)
  refine ex_aload_n F dL_law_401 rfl rfl ?_
  refine ex_aload_n F dL_law_402 rfl rfl ?_
  refine ex_iload_n F dL_law_403 rfl rfl ?_
  refine ex_iconst (v := 1) F dL_law_404 (by decide) ?_
  refine ex_iadd F dL_law_405 ?_
  refine ex_sc (j := i + 1) hS9 (nI_add i 1) (by omega) F dL_law_406 ?_
  refine ex_aload_n F dL_law_407 rfl rfl ?_
  refine ex_iload_n F dL_law_408 rfl rfl ?_
  refine ex_iconst (v := 2) F dL_law_409 (by decide) ?_
  refine ex_iadd F dL_law_410 ?_
  refine ex_sc (j := i + 2) hS9 (nI_add i 2) (by omega) F dL_law_411 ?_
  refine ex_callVi F (h398) dL_law_412 cs_L_law_50 ob_8 rfl rfl rfl rfl (Nat.le_of_ble_eq_true rfl) (fun v412 M412 h412 => ?_)
  obtain ⟨rfl, hB2⟩ := h412
  refine ex_icmp_eq (t := 1449) F dL_law_415 (by decide) (fun _ => ?_) (fun c => absurd rfl c)
  exact ex_weak2 (nx9 _ hB2) ⟨rfl, rfl, rfl, rfl, trivial⟩
theorem cs_L_law_51 : CSV (xmN YL_law).cls (xmF YL_law) (xmW YL_law) 51 2 YX7_turn := ⟨⟨ml_L_51, ini_X7, cd_X7_turn, by decide +kernel, by decide⟩, im_X7_turn, se_X7_turn⟩
theorem cs_L_law_54 : CSV (xmN YL_law).cls (xmF YL_law) (xmW YL_law) 54 2 YX8_turn := ⟨⟨ml_L_54, ini_X8, cd_X8_turn, by decide +kernel, by decide⟩, im_X8_turn, se_X8_turn⟩
set_option maxRecDepth 100000 in
theorem lc_8 {x : XC} {g : XG} {b n i T : Nat} {xs : Nat → Int32} {M : Mem} (F : XF x g YL_law) (hS9 : SC x b n xs) (hi : i + 5 < n) (hB : BW M T) (hT : T + 9000 < 2 ^ 31) (nx9 : ∀ M', BW M' (T + 8000) → EX x g (xmL YL_law) M' 1449 [(0, .ref b), (1, .ref (ad g 0)), (2, .ref (ad g 38)), (3, .int (nI i))] []) : EX x g (xmL YL_law) M 420 [(0, .ref b), (1, .ref (ad g 0)), (2, .ref (ad g 38)), (3, .int (nI i))] [] := by
  refine ex_aload_n F dL_law_420 rfl rfl ?_
  refine ex_aload_n F dL_law_421 rfl rfl ?_
  refine ex_iload_n F dL_law_422 rfl rfl ?_
  refine ex_iconst (v := 1) F dL_law_423 (by decide) ?_
  refine ex_iadd F dL_law_424 ?_
  refine ex_sc (j := i + 1) hS9 (nI_add i 1) (by omega) F dL_law_425 ?_
  refine ex_aload_n F dL_law_426 rfl rfl ?_
  refine ex_iload_n F dL_law_427 rfl rfl ?_
  refine ex_iconst (v := 2) F dL_law_428 (by decide) ?_
  refine ex_iadd F dL_law_429 ?_
  refine ex_sc (j := i + 2) hS9 (nI_add i 2) (by omega) F dL_law_430 ?_
  refine ex_callVi F (op_turn (l := x_l x) hB hT) dL_law_431 cs_L_law_51 ob_7 rfl rfl rfl rfl (Nat.le_of_ble_eq_true rfl) (fun v431 M431 h431 => ?_)
  refine ex_aload_n F dL_law_434 rfl rfl ?_
  refine ex_aload_n F dL_law_435 rfl rfl ?_
  refine ex_iload_n F dL_law_436 rfl rfl ?_
  refine ex_iconst (v := 1) F dL_law_437 (by decide) ?_
  refine ex_iadd F dL_law_438 ?_
  refine ex_sc (j := i + 1) hS9 (nI_add i 1) (by omega) F dL_law_439 ?_
  refine ex_aload_n F dL_law_440 rfl rfl ?_
  refine ex_iload_n F dL_law_441 rfl rfl ?_
  refine ex_iconst (v := 2) F dL_law_442 (by decide) ?_
  refine ex_iadd F dL_law_443 ?_
  refine ex_sc (j := i + 2) hS9 (nI_add i 2) (by omega) F dL_law_444 ?_
  refine ex_callVi F (h431) dL_law_445 cs_L_law_54 ob_8 rfl rfl rfl rfl (Nat.le_of_ble_eq_true rfl) (fun v445 M445 h445 => ?_)
  obtain ⟨rfl, hB2⟩ := h445
  refine ex_icmp_eq (t := 1449) F dL_law_448 (by decide) (fun _ => ?_) (fun c => absurd rfl c)
  exact ex_weak2 (nx9 _ hB2) ⟨rfl, rfl, rfl, rfl, trivial⟩
theorem cs_L_law_55 : CSV (xmN YL_law).cls (xmF YL_law) (xmW YL_law) 55 1 YX7_warm := ⟨⟨ml_L_55, ini_X7, cd_X7_warm, by decide +kernel, by decide⟩, im_X7_warm, se_X7_warm⟩
theorem cs_L_law_58 : CSV (xmN YL_law).cls (xmF YL_law) (xmW YL_law) 58 1 YX8_warm := ⟨⟨ml_L_58, ini_X8, cd_X8_warm, by decide +kernel, by decide⟩, im_X8_warm, se_X8_warm⟩
set_option maxRecDepth 100000 in
theorem lc_9 {x : XC} {g : XG} {b n i T : Nat} {xs : Nat → Int32} {M : Mem} (F : XF x g YL_law) (hS9 : SC x b n xs) (hi : i + 5 < n) (hB : BW M T) (hT : T + 9000 < 2 ^ 31) (nx9 : ∀ M', BW M' (T + 8000) → EX x g (xmL YL_law) M' 1449 [(0, .ref b), (1, .ref (ad g 0)), (2, .ref (ad g 38)), (3, .int (nI i))] []) : EX x g (xmL YL_law) M 453 [(0, .ref b), (1, .ref (ad g 0)), (2, .ref (ad g 38)), (3, .int (nI i))] [] := by
  refine ex_aload_n F dL_law_453 rfl rfl ?_
  refine ex_aload_n F dL_law_454 rfl rfl ?_
  refine ex_iload_n F dL_law_455 rfl rfl ?_
  refine ex_iconst (v := 1) F dL_law_456 (by decide) ?_
  refine ex_iadd F dL_law_457 ?_
  refine ex_sc (j := i + 1) hS9 (nI_add i 1) (by omega) F dL_law_458 ?_
  refine ex_callVi F (op_warm (l := x_l x) hB) dL_law_459 cs_L_law_55 ob_7 rfl rfl rfl rfl (Nat.le_of_ble_eq_true rfl) (fun v459 M459 h459 => ?_)
  refine ex_aload_n F dL_law_462 rfl rfl ?_
  refine ex_aload_n F dL_law_463 rfl rfl ?_
  refine ex_iload_n F dL_law_464 rfl rfl ?_
  refine ex_iconst (v := 1) F dL_law_465 (by decide) ?_
  refine ex_iadd F dL_law_466 ?_
  refine ex_sc (j := i + 1) hS9 (nI_add i 1) (by omega) F dL_law_467 ?_
  refine ex_callVi F (h459) dL_law_468 cs_L_law_58 ob_8 rfl rfl rfl rfl (Nat.le_of_ble_eq_true rfl) (fun v468 M468 h468 => ?_)
  obtain ⟨rfl, hB2⟩ := h468
  refine ex_icmp_eq (t := 1449) F dL_law_471 (by decide) (fun _ => ?_) (fun c => absurd rfl c)
  exact ex_weak2 (nx9 _ hB2) ⟨rfl, rfl, rfl, rfl, trivial⟩
theorem cs_L_law_59 : CSV (xmN YL_law).cls (xmF YL_law) (xmW YL_law) 59 0 YX7_half := ⟨⟨ml_L_59, ini_X7, cd_X7_half, by decide +kernel, by decide⟩, im_X7_half, se_X7_half⟩
theorem cs_L_law_62 : CSV (xmN YL_law).cls (xmF YL_law) (xmW YL_law) 62 0 YX8_half := ⟨⟨ml_L_62, ini_X8, cd_X8_half, by decide +kernel, by decide⟩, im_X8_half, se_X8_half⟩
set_option maxRecDepth 100000 in
theorem lc_10 {x : XC} {g : XG} {b n i T : Nat} {xs : Nat → Int32} {M : Mem} (F : XF x g YL_law) (hS9 : SC x b n xs) (hi : i + 5 < n) (hB : BW M T) (hT : T + 9000 < 2 ^ 31) (nx9 : ∀ M', BW M' (T + 8000) → EX x g (xmL YL_law) M' 1449 [(0, .ref b), (1, .ref (ad g 0)), (2, .ref (ad g 38)), (3, .int (nI i))] []) : EX x g (xmL YL_law) M 476 [(0, .ref b), (1, .ref (ad g 0)), (2, .ref (ad g 38)), (3, .int (nI i))] [] := by
  refine ex_aload_n F dL_law_476 rfl rfl ?_
  refine ex_callVi F (op_half (l := x_l x) hB) dL_law_477 cs_L_law_59 ob_7 rfl rfl rfl rfl (Nat.le_of_ble_eq_true rfl) (fun v477 M477 h477 => ?_)
  refine ex_aload_n F dL_law_480 rfl rfl ?_
  refine ex_callVi F (h477) dL_law_481 cs_L_law_62 ob_8 rfl rfl rfl rfl (Nat.le_of_ble_eq_true rfl) (fun v481 M481 h481 => ?_)
  obtain ⟨rfl, hB2⟩ := h481
  refine ex_icmp_eq (t := 1449) F dL_law_484 (by decide) (fun _ => ?_) (fun c => absurd rfl c)
  exact ex_weak2 (nx9 _ hB2) ⟨rfl, rfl, rfl, rfl, trivial⟩
theorem cs_L_law_63 : CSV (xmN YL_law).cls (xmF YL_law) (xmW YL_law) 63 1 YX7_now := ⟨⟨ml_L_63, ini_X7, cd_X7_now, by decide +kernel, by decide⟩, im_X7_now, se_X7_now⟩
theorem cs_L_law_66 : CSV (xmN YL_law).cls (xmF YL_law) (xmW YL_law) 66 1 YX8_now := ⟨⟨ml_L_66, ini_X8, cd_X8_now, by decide +kernel, by decide⟩, im_X8_now, se_X8_now⟩
set_option maxRecDepth 100000 in
theorem lc_11 {x : XC} {g : XG} {b n i T : Nat} {xs : Nat → Int32} {M : Mem} (F : XF x g YL_law) (hS9 : SC x b n xs) (hi : i + 5 < n) (hB : BW M T) (hT : T + 9000 < 2 ^ 31) (nx9 : ∀ M', BW M' (T + 8000) → EX x g (xmL YL_law) M' 1449 [(0, .ref b), (1, .ref (ad g 0)), (2, .ref (ad g 38)), (3, .int (nI i))] []) : EX x g (xmL YL_law) M 489 [(0, .ref b), (1, .ref (ad g 0)), (2, .ref (ad g 38)), (3, .int (nI i))] [] := by
  refine ex_aload_n F dL_law_489 rfl rfl ?_
  refine ex_aload_n F dL_law_490 rfl rfl ?_
  refine ex_iload_n F dL_law_491 rfl rfl ?_
  refine ex_iconst (v := 1) F dL_law_492 (by decide) ?_
  refine ex_iadd F dL_law_493 ?_
  refine ex_sc (j := i + 1) hS9 (nI_add i 1) (by omega) F dL_law_494 ?_
  refine ex_callVi F (op_now (l := x_l x) hB) dL_law_495 cs_L_law_63 ob_7 rfl rfl rfl rfl (Nat.le_of_ble_eq_true rfl) (fun v495 M495 h495 => ?_)
  refine ex_aload_n F dL_law_498 rfl rfl ?_
  refine ex_aload_n F dL_law_499 rfl rfl ?_
  refine ex_iload_n F dL_law_500 rfl rfl ?_
  refine ex_iconst (v := 1) F dL_law_501 (by decide) ?_
  refine ex_iadd F dL_law_502 ?_
  refine ex_sc (j := i + 1) hS9 (nI_add i 1) (by omega) F dL_law_503 ?_
  refine ex_callVi F (h495) dL_law_504 cs_L_law_66 ob_8 rfl rfl rfl rfl (Nat.le_of_ble_eq_true rfl) (fun v504 M504 h504 => ?_)
  obtain ⟨rfl, hB2⟩ := h504
  refine ex_icmp_eq (t := 1449) F dL_law_507 (by decide) (fun _ => ?_) (fun c => absurd rfl c)
  exact ex_weak2 (nx9 _ hB2) ⟨rfl, rfl, rfl, rfl, trivial⟩
theorem cs_L_law_67 : CSV (xmN YL_law).cls (xmF YL_law) (xmW YL_law) 67 1 YX7_drops := ⟨⟨ml_L_67, ini_X7, cd_X7_drops, by decide +kernel, by decide⟩, im_X7_drops, se_X7_drops⟩
theorem cs_L_law_70 : CSV (xmN YL_law).cls (xmF YL_law) (xmW YL_law) 70 1 YX8_drops := ⟨⟨ml_L_70, ini_X8, cd_X8_drops, by decide +kernel, by decide⟩, im_X8_drops, se_X8_drops⟩
set_option maxRecDepth 100000 in
theorem lc_12 {x : XC} {g : XG} {b n i T : Nat} {xs : Nat → Int32} {M : Mem} (F : XF x g YL_law) (hS9 : SC x b n xs) (hi : i + 5 < n) (hB : BW M T) (hT : T + 9000 < 2 ^ 31) (nx9 : ∀ M', BW M' (T + 8000) → EX x g (xmL YL_law) M' 1449 [(0, .ref b), (1, .ref (ad g 0)), (2, .ref (ad g 38)), (3, .int (nI i))] []) : EX x g (xmL YL_law) M 512 [(0, .ref b), (1, .ref (ad g 0)), (2, .ref (ad g 38)), (3, .int (nI i))] [] := by
  refine ex_aload_n F dL_law_512 rfl rfl ?_
  refine ex_aload_n F dL_law_513 rfl rfl ?_
  refine ex_iload_n F dL_law_514 rfl rfl ?_
  refine ex_iconst (v := 1) F dL_law_515 (by decide) ?_
  refine ex_iadd F dL_law_516 ?_
  refine ex_sc (j := i + 1) hS9 (nI_add i 1) (by omega) F dL_law_517 ?_
  refine ex_callVi F (op_drops (l := x_l x) hB) dL_law_518 cs_L_law_67 ob_7 rfl rfl rfl rfl (Nat.le_of_ble_eq_true rfl) (fun v518 M518 h518 => ?_)
  refine ex_aload_n F dL_law_521 rfl rfl ?_
  refine ex_aload_n F dL_law_522 rfl rfl ?_
  refine ex_iload_n F dL_law_523 rfl rfl ?_
  refine ex_iconst (v := 1) F dL_law_524 (by decide) ?_
  refine ex_iadd F dL_law_525 ?_
  refine ex_sc (j := i + 1) hS9 (nI_add i 1) (by omega) F dL_law_526 ?_
  refine ex_callVi F (h518) dL_law_527 cs_L_law_70 ob_8 rfl rfl rfl rfl (Nat.le_of_ble_eq_true rfl) (fun v527 M527 h527 => ?_)
  obtain ⟨rfl, hB2⟩ := h527
  refine ex_icmp_eq (t := 1449) F dL_law_530 (by decide) (fun _ => ?_) (fun c => absurd rfl c)
  exact ex_weak2 (nx9 _ hB2) ⟨rfl, rfl, rfl, rfl, trivial⟩
theorem cs_L_law_71 : CSV (xmN YL_law).cls (xmF YL_law) (xmW YL_law) 71 5 YX7_run := ⟨⟨ml_L_71, ini_X7, cd_X7_run, by decide +kernel, by decide⟩, im_X7_run, se_X7_run⟩
theorem cs_L_law_75 : CSV (xmN YL_law).cls (xmF YL_law) (xmW YL_law) 75 5 YX8_run := ⟨⟨ml_L_75, ini_X8, cd_X8_run, by decide +kernel, by decide⟩, im_X8_run, se_X8_run⟩
set_option maxRecDepth 100000 in
theorem lc_13 {x : XC} {g : XG} {b n i T : Nat} {xs : Nat → Int32} {M : Mem} (F : XF x g YL_law) (hS9 : SC x b n xs) (hi : i + 5 < n) (hB : BW M T) (hT : T + 9000 < 2 ^ 31) (nx9 : ∀ M', BW M' (T + 8000) → EX x g (xmL YL_law) M' 1449 [(0, .ref b), (1, .ref (ad g 0)), (2, .ref (ad g 38)), (3, .int (nI i))] []) : EX x g (xmL YL_law) M 535 [(0, .ref b), (1, .ref (ad g 0)), (2, .ref (ad g 38)), (3, .int (nI i))] [] := by
  refine ex_aload_n F dL_law_535 rfl rfl ?_
  refine ex_aload_n F dL_law_536 rfl rfl ?_
  refine ex_iload_n F dL_law_537 rfl rfl ?_
  refine ex_iconst (v := 1) F dL_law_538 (by decide) ?_
  refine ex_iadd F dL_law_539 ?_
  refine ex_sc (j := i + 1) hS9 (nI_add i 1) (by omega) F dL_law_540 ?_
  refine ex_aload_n F dL_law_541 rfl rfl ?_
  refine ex_iload_n F dL_law_542 rfl rfl ?_
  refine ex_iconst (v := 2) F dL_law_543 (by decide) ?_
  refine ex_iadd F dL_law_544 ?_
  refine ex_sc (j := i + 2) hS9 (nI_add i 2) (by omega) F dL_law_545 ?_
  refine ex_aload_n F dL_law_546 rfl rfl ?_
  refine ex_iload_n F dL_law_547 rfl rfl ?_
  refine ex_iconst (v := 3) F dL_law_548 (by decide) ?_
  refine ex_iadd F dL_law_549 ?_
  refine ex_sc (j := i + 3) hS9 (nI_add i 3) (by omega) F dL_law_550 ?_
  refine ex_aload_n F dL_law_551 rfl rfl ?_
  refine ex_iload_n F dL_law_552 rfl rfl ?_
  refine ex_iconst (v := 4) F dL_law_553 (by decide) ?_
  refine ex_iadd F dL_law_554 ?_
  refine ex_sc (j := i + 4) hS9 (nI_add i 4) (by omega) F dL_law_555 ?_
  refine ex_aload_n F dL_law_556 rfl rfl ?_
  refine ex_iload_n F dL_law_557 rfl rfl ?_
  refine ex_iconst (v := 5) F dL_law_558 (by decide) ?_
  refine ex_iadd F dL_law_559 ?_
  refine ex_sc (j := i + 5) hS9 (nI_add i 5) (by omega) F dL_law_560 ?_
  refine ex_callVi F (op_run (l := x_l x) hB) dL_law_561 cs_L_law_71 ob_7 rfl rfl rfl rfl (Nat.le_of_ble_eq_true rfl) (fun v561 M561 h561 => ?_)
  refine ex_aload_n F dL_law_564 rfl rfl ?_
  refine ex_aload_n F dL_law_565 rfl rfl ?_
  refine ex_iload_n F dL_law_566 rfl rfl ?_
  refine ex_iconst (v := 1) F dL_law_567 (by decide) ?_
  refine ex_iadd F dL_law_568 ?_
  refine ex_sc (j := i + 1) hS9 (nI_add i 1) (by omega) F dL_law_569 ?_
  refine ex_aload_n F dL_law_570 rfl rfl ?_
  refine ex_iload_n F dL_law_571 rfl rfl ?_
  refine ex_iconst (v := 2) F dL_law_572 (by decide) ?_
  refine ex_iadd F dL_law_573 ?_
  refine ex_sc (j := i + 2) hS9 (nI_add i 2) (by omega) F dL_law_574 ?_
  refine ex_aload_n F dL_law_575 rfl rfl ?_
  refine ex_iload_n F dL_law_576 rfl rfl ?_
  refine ex_iconst (v := 3) F dL_law_577 (by decide) ?_
  refine ex_iadd F dL_law_578 ?_
  refine ex_sc (j := i + 3) hS9 (nI_add i 3) (by omega) F dL_law_579 ?_
  refine ex_aload_n F dL_law_580 rfl rfl ?_
  refine ex_iload_n F dL_law_581 rfl rfl ?_
  refine ex_iconst (v := 4) F dL_law_582 (by decide) ?_
  refine ex_iadd F dL_law_583 ?_
  refine ex_sc (j := i + 4) hS9 (nI_add i 4) (by omega) F dL_law_584 ?_
  refine ex_aload_n F dL_law_585 rfl rfl ?_
  refine ex_iload_n F dL_law_586 rfl rfl ?_
  refine ex_iconst (v := 5) F dL_law_587 (by decide) ?_
  refine ex_iadd F dL_law_588 ?_
  refine ex_sc (j := i + 5) hS9 (nI_add i 5) (by omega) F dL_law_589 ?_
  refine ex_callVi F (h561) dL_law_590 cs_L_law_75 ob_8 rfl rfl rfl rfl (Nat.le_of_ble_eq_true rfl) (fun v590 M590 h590 => ?_)
  obtain ⟨rfl, hB2⟩ := h590
  refine ex_icmp_eq (t := 1449) F dL_law_593 (by decide) (fun _ => ?_) (fun c => absurd rfl c)
  exact ex_weak2 (nx9 _ hB2) ⟨rfl, rfl, rfl, rfl, trivial⟩
theorem cs_L_law_76 : CSV (xmN YL_law).cls (xmF YL_law) (xmW YL_law) 76 3 YX7_comes := ⟨⟨ml_L_76, ini_X7, cd_X7_comes, by decide +kernel, by decide⟩, im_X7_comes, se_X7_comes⟩
theorem cs_L_law_80 : CSV (xmN YL_law).cls (xmF YL_law) (xmW YL_law) 80 3 YX8_comes := ⟨⟨ml_L_80, ini_X8, cd_X8_comes, by decide +kernel, by decide⟩, im_X8_comes, se_X8_comes⟩
set_option maxRecDepth 100000 in
theorem lc_14 {x : XC} {g : XG} {b n i T : Nat} {xs : Nat → Int32} {M : Mem} (F : XF x g YL_law) (hS9 : SC x b n xs) (hi : i + 5 < n) (hB : BW M T) (hT : T + 9000 < 2 ^ 31) (nx9 : ∀ M', BW M' (T + 8000) → EX x g (xmL YL_law) M' 1449 [(0, .ref b), (1, .ref (ad g 0)), (2, .ref (ad g 38)), (3, .int (nI i))] []) : EX x g (xmL YL_law) M 598 [(0, .ref b), (1, .ref (ad g 0)), (2, .ref (ad g 38)), (3, .int (nI i))] [] := by
  refine ex_aload_n F dL_law_598 rfl rfl ?_
  refine ex_aload_n F dL_law_599 rfl rfl ?_
  refine ex_iload_n F dL_law_600 rfl rfl ?_
  refine ex_iconst (v := 1) F dL_law_601 (by decide) ?_
  refine ex_iadd F dL_law_602 ?_
  refine ex_sc (j := i + 1) hS9 (nI_add i 1) (by omega) F dL_law_603 ?_
  refine ex_aload_n F dL_law_604 rfl rfl ?_
  refine ex_iload_n F dL_law_605 rfl rfl ?_
  refine ex_iconst (v := 2) F dL_law_606 (by decide) ?_
  refine ex_iadd F dL_law_607 ?_
  refine ex_sc (j := i + 2) hS9 (nI_add i 2) (by omega) F dL_law_608 ?_
  refine ex_aload_n F dL_law_609 rfl rfl ?_
  refine ex_iload_n F dL_law_610 rfl rfl ?_
  refine ex_iconst (v := 3) F dL_law_611 (by decide) ?_
  refine ex_iadd F dL_law_612 ?_
  refine ex_sc (j := i + 3) hS9 (nI_add i 3) (by omega) F dL_law_613 ?_
  refine ex_callVi F (op_comes (l := x_l x) hB) dL_law_614 cs_L_law_76 ob_7 rfl rfl rfl rfl (Nat.le_of_ble_eq_true rfl) (fun v614 M614 h614 => ?_)
  refine ex_aload_n F dL_law_617 rfl rfl ?_
  refine ex_aload_n F dL_law_618 rfl rfl ?_
  refine ex_iload_n F dL_law_619 rfl rfl ?_
  refine ex_iconst (v := 1) F dL_law_620 (by decide) ?_
  refine ex_iadd F dL_law_621 ?_
  refine ex_sc (j := i + 1) hS9 (nI_add i 1) (by omega) F dL_law_622 ?_
  refine ex_aload_n F dL_law_623 rfl rfl ?_
  refine ex_iload_n F dL_law_624 rfl rfl ?_
  refine ex_iconst (v := 2) F dL_law_625 (by decide) ?_
  refine ex_iadd F dL_law_626 ?_
  refine ex_sc (j := i + 2) hS9 (nI_add i 2) (by omega) F dL_law_627 ?_
  refine ex_aload_n F dL_law_628 rfl rfl ?_
  refine ex_iload_n F dL_law_629 rfl rfl ?_
  refine ex_iconst (v := 3) F dL_law_630 (by decide) ?_
  refine ex_iadd F dL_law_631 ?_
  refine ex_sc (j := i + 3) hS9 (nI_add i 3) (by omega) F dL_law_632 ?_
  refine ex_callVi F (h614) dL_law_633 cs_L_law_80 ob_8 rfl rfl rfl rfl (Nat.le_of_ble_eq_true rfl) (fun v633 M633 h633 => ?_)
  obtain ⟨rfl, hB2⟩ := h633
  refine ex_icmp_eq (t := 1449) F dL_law_636 (by decide) (fun _ => ?_) (fun c => absurd rfl c)
  exact ex_weak2 (nx9 _ hB2) ⟨rfl, rfl, rfl, rfl, trivial⟩
theorem cs_L_law_81 : CSV (xmN YL_law).cls (xmF YL_law) (xmW YL_law) 81 2 YX7_plan := ⟨⟨ml_L_81, ini_X7, cd_X7_plan, by decide +kernel, by decide⟩, im_X7_plan, se_X7_plan⟩
theorem cs_L_law_84 : CSV (xmN YL_law).cls (xmF YL_law) (xmW YL_law) 84 2 YX8_plan := ⟨⟨ml_L_84, ini_X8, cd_X8_plan, by decide +kernel, by decide⟩, im_X8_plan, se_X8_plan⟩
set_option maxRecDepth 100000 in
theorem lc_15 {x : XC} {g : XG} {b n i T : Nat} {xs : Nat → Int32} {M : Mem} (F : XF x g YL_law) (hS9 : SC x b n xs) (hi : i + 5 < n) (hB : BW M T) (hT : T + 9000 < 2 ^ 31) (nx9 : ∀ M', BW M' (T + 8000) → EX x g (xmL YL_law) M' 1449 [(0, .ref b), (1, .ref (ad g 0)), (2, .ref (ad g 38)), (3, .int (nI i))] []) : EX x g (xmL YL_law) M 641 [(0, .ref b), (1, .ref (ad g 0)), (2, .ref (ad g 38)), (3, .int (nI i))] [] := by
  refine ex_aload_n F dL_law_641 rfl rfl ?_
  refine ex_aload_n F dL_law_642 rfl rfl ?_
  refine ex_iload_n F dL_law_643 rfl rfl ?_
  refine ex_iconst (v := 1) F dL_law_644 (by decide) ?_
  refine ex_iadd F dL_law_645 ?_
  refine ex_sc (j := i + 1) hS9 (nI_add i 1) (by omega) F dL_law_646 ?_
  refine ex_aload_n F dL_law_647 rfl rfl ?_
  refine ex_iload_n F dL_law_648 rfl rfl ?_
  refine ex_iconst (v := 2) F dL_law_649 (by decide) ?_
  refine ex_iadd F dL_law_650 ?_
  refine ex_sc (j := i + 2) hS9 (nI_add i 2) (by omega) F dL_law_651 ?_
  refine ex_callVi F (op_plan (l := x_l x) hB) dL_law_652 cs_L_law_81 ob_7 rfl rfl rfl rfl (Nat.le_of_ble_eq_true rfl) (fun v652 M652 h652 => ?_)
  refine ex_aload_n F dL_law_655 rfl rfl ?_
  refine ex_aload_n F dL_law_656 rfl rfl ?_
  refine ex_iload_n F dL_law_657 rfl rfl ?_
  refine ex_iconst (v := 1) F dL_law_658 (by decide) ?_
  refine ex_iadd F dL_law_659 ?_
  refine ex_sc (j := i + 1) hS9 (nI_add i 1) (by omega) F dL_law_660 ?_
  refine ex_aload_n F dL_law_661 rfl rfl ?_
  refine ex_iload_n F dL_law_662 rfl rfl ?_
  refine ex_iconst (v := 2) F dL_law_663 (by decide) ?_
  refine ex_iadd F dL_law_664 ?_
  refine ex_sc (j := i + 2) hS9 (nI_add i 2) (by omega) F dL_law_665 ?_
  refine ex_callVi F (h652) dL_law_666 cs_L_law_84 ob_8 rfl rfl rfl rfl (Nat.le_of_ble_eq_true rfl) (fun v666 M666 h666 => ?_)
  obtain ⟨rfl, hB2⟩ := h666
  refine ex_icmp_eq (t := 1449) F dL_law_669 (by decide) (fun _ => ?_) (fun c => absurd rfl c)
  exact ex_weak2 (nx9 _ hB2) ⟨rfl, rfl, rfl, rfl, trivial⟩
theorem cs_L_law_85 : CSV (xmN YL_law).cls (xmF YL_law) (xmW YL_law) 85 1 YX7_without := ⟨⟨ml_L_85, ini_X7, cd_X7_without, by decide +kernel, by decide⟩, im_X7_without, se_X7_without⟩
theorem cs_L_law_88 : CSV (xmN YL_law).cls (xmF YL_law) (xmW YL_law) 88 1 YX8_without := ⟨⟨ml_L_88, ini_X8, cd_X8_without, by decide +kernel, by decide⟩, im_X8_without, se_X8_without⟩
set_option maxRecDepth 100000 in
theorem lc_16 {x : XC} {g : XG} {b n i T : Nat} {xs : Nat → Int32} {M : Mem} (F : XF x g YL_law) (hS9 : SC x b n xs) (hi : i + 5 < n) (hB : BW M T) (hT : T + 9000 < 2 ^ 31) (nx9 : ∀ M', BW M' (T + 8000) → EX x g (xmL YL_law) M' 1449 [(0, .ref b), (1, .ref (ad g 0)), (2, .ref (ad g 38)), (3, .int (nI i))] []) : EX x g (xmL YL_law) M 674 [(0, .ref b), (1, .ref (ad g 0)), (2, .ref (ad g 38)), (3, .int (nI i))] [] := by
  refine ex_aload_n F dL_law_674 rfl rfl ?_
  refine ex_aload_n F dL_law_675 rfl rfl ?_
  refine ex_iload_n F dL_law_676 rfl rfl ?_
  refine ex_iconst (v := 1) F dL_law_677 (by decide) ?_
  refine ex_iadd F dL_law_678 ?_
  refine ex_sc (j := i + 1) hS9 (nI_add i 1) (by omega) F dL_law_679 ?_
  refine ex_callVi F (op_without (l := x_l x) hB) dL_law_680 cs_L_law_85 ob_7 rfl rfl rfl rfl (Nat.le_of_ble_eq_true rfl) (fun v680 M680 h680 => ?_)
  refine ex_aload_n F dL_law_683 rfl rfl ?_
  refine ex_aload_n F dL_law_684 rfl rfl ?_
  refine ex_iload_n F dL_law_685 rfl rfl ?_
  refine ex_iconst (v := 1) F dL_law_686 (by decide) ?_
  refine ex_iadd F dL_law_687 ?_
  refine ex_sc (j := i + 1) hS9 (nI_add i 1) (by omega) F dL_law_688 ?_
  refine ex_callVi F (h680) dL_law_689 cs_L_law_88 ob_8 rfl rfl rfl rfl (Nat.le_of_ble_eq_true rfl) (fun v689 M689 h689 => ?_)
  obtain ⟨rfl, hB2⟩ := h689
  refine ex_icmp_eq (t := 1449) F dL_law_692 (by decide) (fun _ => ?_) (fun c => absurd rfl c)
  exact ex_weak2 (nx9 _ hB2) ⟨rfl, rfl, rfl, rfl, trivial⟩
theorem cs_L_law_89 : CSV (xmN YL_law).cls (xmF YL_law) (xmW YL_law) 89 2 YX7_saw := ⟨⟨ml_L_89, ini_X7, cd_X7_saw, by decide +kernel, by decide⟩, im_X7_saw, se_X7_saw⟩
theorem cs_L_law_92 : CSV (xmN YL_law).cls (xmF YL_law) (xmW YL_law) 92 2 YX8_saw := ⟨⟨ml_L_92, ini_X8, cd_X8_saw, by decide +kernel, by decide⟩, im_X8_saw, se_X8_saw⟩
set_option maxRecDepth 100000 in
theorem lc_17 {x : XC} {g : XG} {b n i T : Nat} {xs : Nat → Int32} {M : Mem} (F : XF x g YL_law) (hS9 : SC x b n xs) (hi : i + 5 < n) (hB : BW M T) (hT : T + 9000 < 2 ^ 31) (nx9 : ∀ M', BW M' (T + 8000) → EX x g (xmL YL_law) M' 1449 [(0, .ref b), (1, .ref (ad g 0)), (2, .ref (ad g 38)), (3, .int (nI i))] []) : EX x g (xmL YL_law) M 697 [(0, .ref b), (1, .ref (ad g 0)), (2, .ref (ad g 38)), (3, .int (nI i))] [] := by
  refine ex_aload_n F dL_law_697 rfl rfl ?_
  refine ex_aload_n F dL_law_698 rfl rfl ?_
  refine ex_iload_n F dL_law_699 rfl rfl ?_
  refine ex_iconst (v := 1) F dL_law_700 (by decide) ?_
  refine ex_iadd F dL_law_701 ?_
  refine ex_sc (j := i + 1) hS9 (nI_add i 1) (by omega) F dL_law_702 ?_
  refine ex_aload_n F dL_law_703 rfl rfl ?_
  refine ex_iload_n F dL_law_704 rfl rfl ?_
  refine ex_iconst (v := 2) F dL_law_705 (by decide) ?_
  refine ex_iadd F dL_law_706 ?_
  refine ex_sc (j := i + 2) hS9 (nI_add i 2) (by omega) F dL_law_707 ?_
  refine ex_callVi F (op_saw (l := x_l x) hB) dL_law_708 cs_L_law_89 ob_7 rfl rfl rfl rfl (Nat.le_of_ble_eq_true rfl) (fun v708 M708 h708 => ?_)
  refine ex_aload_n F dL_law_711 rfl rfl ?_
  refine ex_aload_n F dL_law_712 rfl rfl ?_
  refine ex_iload_n F dL_law_713 rfl rfl ?_
  refine ex_iconst (v := 1) F dL_law_714 (by decide) ?_
  refine ex_iadd F dL_law_715 ?_
  refine ex_sc (j := i + 1) hS9 (nI_add i 1) (by omega) F dL_law_716 ?_
  refine ex_aload_n F dL_law_717 rfl rfl ?_
  refine ex_iload_n F dL_law_718 rfl rfl ?_
  refine ex_iconst (v := 2) F dL_law_719 (by decide) ?_
  refine ex_iadd F dL_law_720 ?_
  refine ex_sc (j := i + 2) hS9 (nI_add i 2) (by omega) F dL_law_721 ?_
  refine ex_callVi F (h708) dL_law_722 cs_L_law_92 ob_8 rfl rfl rfl rfl (Nat.le_of_ble_eq_true rfl) (fun v722 M722 h722 => ?_)
  obtain ⟨rfl, hB2⟩ := h722
  refine ex_icmp_eq (t := 1449) F dL_law_725 (by decide) (fun _ => ?_) (fun c => absurd rfl c)
  exact ex_weak2 (nx9 _ hB2) ⟨rfl, rfl, rfl, rfl, trivial⟩
theorem cs_L_law_93 : CSV (xmN YL_law).cls (xmF YL_law) (xmW YL_law) 93 0 YX7_forget := ⟨⟨ml_L_93, ini_X7, cd_X7_forget, by decide +kernel, by decide⟩, im_X7_forget, se_X7_forget⟩
theorem cs_L_law_96 : CSV (xmN YL_law).cls (xmF YL_law) (xmW YL_law) 96 0 YX8_forget := ⟨⟨ml_L_96, ini_X8, cd_X8_forget, by decide +kernel, by decide⟩, im_X8_forget, se_X8_forget⟩
set_option maxRecDepth 100000 in
theorem lc_18 {x : XC} {g : XG} {b n i T : Nat} {xs : Nat → Int32} {M : Mem} (F : XF x g YL_law) (hS9 : SC x b n xs) (hi : i + 5 < n) (hB : BW M T) (hT : T + 9000 < 2 ^ 31) (nx9 : ∀ M', BW M' (T + 8000) → EX x g (xmL YL_law) M' 1449 [(0, .ref b), (1, .ref (ad g 0)), (2, .ref (ad g 38)), (3, .int (nI i))] []) : EX x g (xmL YL_law) M 730 [(0, .ref b), (1, .ref (ad g 0)), (2, .ref (ad g 38)), (3, .int (nI i))] [] := by
  refine ex_aload_n F dL_law_730 rfl rfl ?_
  refine ex_callVi F (op_forget (l := x_l x) hB) dL_law_731 cs_L_law_93 ob_7 rfl rfl rfl rfl (Nat.le_of_ble_eq_true rfl) (fun v731 M731 h731 => ?_)
  refine ex_aload_n F dL_law_734 rfl rfl ?_
  refine ex_callVi F (h731) dL_law_735 cs_L_law_96 ob_8 rfl rfl rfl rfl (Nat.le_of_ble_eq_true rfl) (fun v735 M735 h735 => ?_)
  obtain ⟨rfl, hB2⟩ := h735
  refine ex_icmp_eq (t := 1449) F dL_law_738 (by decide) (fun _ => ?_) (fun c => absurd rfl c)
  exact ex_weak2 (nx9 _ hB2) ⟨rfl, rfl, rfl, rfl, trivial⟩
theorem cs_L_law_97 : CSV (xmN YL_law).cls (xmF YL_law) (xmW YL_law) 97 1 YX7_why := ⟨⟨ml_L_97, ini_X7, cd_X7_why, by decide +kernel, by decide⟩, im_X7_why, se_X7_why⟩
theorem cs_L_law_100 : CSV (xmN YL_law).cls (xmF YL_law) (xmW YL_law) 100 1 YX8_why := ⟨⟨ml_L_100, ini_X8, cd_X8_why, by decide +kernel, by decide⟩, im_X8_why, se_X8_why⟩
set_option maxRecDepth 100000 in
theorem lc_19 {x : XC} {g : XG} {b n i T : Nat} {xs : Nat → Int32} {M : Mem} (F : XF x g YL_law) (hS9 : SC x b n xs) (hi : i + 5 < n) (hB : BW M T) (hT : T + 9000 < 2 ^ 31) (nx9 : ∀ M', BW M' (T + 8000) → EX x g (xmL YL_law) M' 1449 [(0, .ref b), (1, .ref (ad g 0)), (2, .ref (ad g 38)), (3, .int (nI i))] []) : EX x g (xmL YL_law) M 743 [(0, .ref b), (1, .ref (ad g 0)), (2, .ref (ad g 38)), (3, .int (nI i))] [] := by
  refine ex_aload_n F dL_law_743 rfl rfl ?_
  refine ex_aload_n F dL_law_744 rfl rfl ?_
  refine ex_iload_n F dL_law_745 rfl rfl ?_
  refine ex_iconst (v := 1) F dL_law_746 (by decide) ?_
  refine ex_iadd F dL_law_747 ?_
  refine ex_sc (j := i + 1) hS9 (nI_add i 1) (by omega) F dL_law_748 ?_
  refine ex_callVi F (op_why (l := x_l x) hB) dL_law_749 cs_L_law_97 ob_7 rfl rfl rfl rfl (Nat.le_of_ble_eq_true rfl) (fun v749 M749 h749 => ?_)
  refine ex_aload_n F dL_law_752 rfl rfl ?_
  refine ex_aload_n F dL_law_753 rfl rfl ?_
  refine ex_iload_n F dL_law_754 rfl rfl ?_
  refine ex_iconst (v := 1) F dL_law_755 (by decide) ?_
  refine ex_iadd F dL_law_756 ?_
  refine ex_sc (j := i + 1) hS9 (nI_add i 1) (by omega) F dL_law_757 ?_
  refine ex_callVi F (h749) dL_law_758 cs_L_law_100 ob_8 rfl rfl rfl rfl (Nat.le_of_ble_eq_true rfl) (fun v758 M758 h758 => ?_)
  obtain ⟨rfl, hB2⟩ := h758
  refine ex_icmp_eq (t := 1449) F dL_law_761 (by decide) (fun _ => ?_) (fun c => absurd rfl c)
  exact ex_weak2 (nx9 _ hB2) ⟨rfl, rfl, rfl, rfl, trivial⟩
theorem cs_L_law_101 : CSV (xmN YL_law).cls (xmF YL_law) (xmW YL_law) 101 2 YX7_next := ⟨⟨ml_L_101, ini_X7, cd_X7_next, by decide +kernel, by decide⟩, im_X7_next, se_X7_next⟩
theorem cs_L_law_104 : CSV (xmN YL_law).cls (xmF YL_law) (xmW YL_law) 104 2 YX8_next := ⟨⟨ml_L_104, ini_X8, cd_X8_next, by decide +kernel, by decide⟩, im_X8_next, se_X8_next⟩
set_option maxRecDepth 100000 in
theorem lc_20 {x : XC} {g : XG} {b n i T : Nat} {xs : Nat → Int32} {M : Mem} (F : XF x g YL_law) (hS9 : SC x b n xs) (hi : i + 5 < n) (hB : BW M T) (hT : T + 9000 < 2 ^ 31) (nx9 : ∀ M', BW M' (T + 8000) → EX x g (xmL YL_law) M' 1449 [(0, .ref b), (1, .ref (ad g 0)), (2, .ref (ad g 38)), (3, .int (nI i))] []) : EX x g (xmL YL_law) M 766 [(0, .ref b), (1, .ref (ad g 0)), (2, .ref (ad g 38)), (3, .int (nI i))] [] := by
  refine ex_aload_n F dL_law_766 rfl rfl ?_
  refine ex_aload_n F dL_law_767 rfl rfl ?_
  refine ex_iload_n F dL_law_768 rfl rfl ?_
  refine ex_iconst (v := 1) F dL_law_769 (by decide) ?_
  refine ex_iadd F dL_law_770 ?_
  refine ex_sc (j := i + 1) hS9 (nI_add i 1) (by omega) F dL_law_771 ?_
  refine ex_aload_n F dL_law_772 rfl rfl ?_
  refine ex_iload_n F dL_law_773 rfl rfl ?_
  refine ex_iconst (v := 2) F dL_law_774 (by decide) ?_
  refine ex_iadd F dL_law_775 ?_
  refine ex_sc (j := i + 2) hS9 (nI_add i 2) (by omega) F dL_law_776 ?_
  refine ex_callVi F (op_next (l := x_l x) hB hT) dL_law_777 cs_L_law_101 ob_7 rfl rfl rfl rfl (Nat.le_of_ble_eq_true rfl) (fun v777 M777 h777 => ?_)
  refine ex_aload_n F dL_law_780 rfl rfl ?_
  refine ex_aload_n F dL_law_781 rfl rfl ?_
  refine ex_iload_n F dL_law_782 rfl rfl ?_
  refine ex_iconst (v := 1) F dL_law_783 (by decide) ?_
  refine ex_iadd F dL_law_784 ?_
  refine ex_sc (j := i + 1) hS9 (nI_add i 1) (by omega) F dL_law_785 ?_
  refine ex_aload_n F dL_law_786 rfl rfl ?_
  refine ex_iload_n F dL_law_787 rfl rfl ?_
  refine ex_iconst (v := 2) F dL_law_788 (by decide) ?_
  refine ex_iadd F dL_law_789 ?_
  refine ex_sc (j := i + 2) hS9 (nI_add i 2) (by omega) F dL_law_790 ?_
  refine ex_callVi F (h777) dL_law_791 cs_L_law_104 ob_8 rfl rfl rfl rfl (Nat.le_of_ble_eq_true rfl) (fun v791 M791 h791 => ?_)
  obtain ⟨rfl, hB2⟩ := h791
  refine ex_icmp_eq (t := 1449) F dL_law_794 (by decide) (fun _ => ?_) (fun c => absurd rfl c)
  exact ex_weak2 (nx9 _ hB2) ⟨rfl, rfl, rfl, rfl, trivial⟩
theorem cs_L_law_105 : CSV (xmN YL_law).cls (xmF YL_law) (xmW YL_law) 105 1 YX7_over := ⟨⟨ml_L_105, ini_X7, cd_X7_over, by decide +kernel, by decide⟩, im_X7_over, se_X7_over⟩
theorem cs_L_law_108 : CSV (xmN YL_law).cls (xmF YL_law) (xmW YL_law) 108 1 YX8_over := ⟨⟨ml_L_108, ini_X8, cd_X8_over, by decide +kernel, by decide⟩, im_X8_over, se_X8_over⟩
set_option maxRecDepth 100000 in
theorem lc_21 {x : XC} {g : XG} {b n i T : Nat} {xs : Nat → Int32} {M : Mem} (F : XF x g YL_law) (hS9 : SC x b n xs) (hi : i + 5 < n) (hB : BW M T) (hT : T + 9000 < 2 ^ 31) (nx9 : ∀ M', BW M' (T + 8000) → EX x g (xmL YL_law) M' 1449 [(0, .ref b), (1, .ref (ad g 0)), (2, .ref (ad g 38)), (3, .int (nI i))] []) : EX x g (xmL YL_law) M 799 [(0, .ref b), (1, .ref (ad g 0)), (2, .ref (ad g 38)), (3, .int (nI i))] [] := by
  refine ex_aload_n F dL_law_799 rfl rfl ?_
  refine ex_aload_n F dL_law_800 rfl rfl ?_
  refine ex_iload_n F dL_law_801 rfl rfl ?_
  refine ex_iconst (v := 1) F dL_law_802 (by decide) ?_
  refine ex_iadd F dL_law_803 ?_
  refine ex_sc (j := i + 1) hS9 (nI_add i 1) (by omega) F dL_law_804 ?_
  refine ex_callVi F (op_over (l := x_l x) hB hT) dL_law_805 cs_L_law_105 ob_7 rfl rfl rfl rfl (Nat.le_of_ble_eq_true rfl) (fun v805 M805 h805 => ?_)
  refine ex_aload_n F dL_law_808 rfl rfl ?_
  refine ex_aload_n F dL_law_809 rfl rfl ?_
  refine ex_iload_n F dL_law_810 rfl rfl ?_
  refine ex_iconst (v := 1) F dL_law_811 (by decide) ?_
  refine ex_iadd F dL_law_812 ?_
  refine ex_sc (j := i + 1) hS9 (nI_add i 1) (by omega) F dL_law_813 ?_
  refine ex_callVi F (h805) dL_law_814 cs_L_law_108 ob_8 rfl rfl rfl rfl (Nat.le_of_ble_eq_true rfl) (fun v814 M814 h814 => ?_)
  obtain ⟨rfl, hB2⟩ := h814
  refine ex_icmp_eq (t := 1449) F dL_law_817 (by decide) (fun _ => ?_) (fun c => absurd rfl c)
  exact ex_weak2 (nx9 _ hB2) ⟨rfl, rfl, rfl, rfl, trivial⟩
theorem cs_L_law_109 : CSV (xmN YL_law).cls (xmF YL_law) (xmW YL_law) 109 4 YX7_wash := ⟨⟨ml_L_109, ini_X7, cd_X7_wash, by decide +kernel, by decide⟩, im_X7_wash, se_X7_wash⟩
theorem cs_L_law_113 : CSV (xmN YL_law).cls (xmF YL_law) (xmW YL_law) 113 4 YX8_wash := ⟨⟨ml_L_113, ini_X8, cd_X8_wash, by decide +kernel, by decide⟩, im_X8_wash, se_X8_wash⟩
set_option maxRecDepth 100000 in
theorem lc_22 {x : XC} {g : XG} {b n i T : Nat} {xs : Nat → Int32} {M : Mem} (F : XF x g YL_law) (hS9 : SC x b n xs) (hi : i + 5 < n) (hB : BW M T) (hT : T + 9000 < 2 ^ 31) (nx9 : ∀ M', BW M' (T + 8000) → EX x g (xmL YL_law) M' 1449 [(0, .ref b), (1, .ref (ad g 0)), (2, .ref (ad g 38)), (3, .int (nI i))] []) : EX x g (xmL YL_law) M 822 [(0, .ref b), (1, .ref (ad g 0)), (2, .ref (ad g 38)), (3, .int (nI i))] [] := by
  refine ex_aload_n F dL_law_822 rfl rfl ?_
  refine ex_aload_n F dL_law_823 rfl rfl ?_
  refine ex_iload_n F dL_law_824 rfl rfl ?_
  refine ex_iconst (v := 1) F dL_law_825 (by decide) ?_
  refine ex_iadd F dL_law_826 ?_
  refine ex_sc (j := i + 1) hS9 (nI_add i 1) (by omega) F dL_law_827 ?_
  refine ex_aload_n F dL_law_828 rfl rfl ?_
  refine ex_iload_n F dL_law_829 rfl rfl ?_
  refine ex_iconst (v := 2) F dL_law_830 (by decide) ?_
  refine ex_iadd F dL_law_831 ?_
  refine ex_sc (j := i + 2) hS9 (nI_add i 2) (by omega) F dL_law_832 ?_
  refine ex_aload_n F dL_law_833 rfl rfl ?_
  refine ex_iload_n F dL_law_834 rfl rfl ?_
  refine ex_iconst (v := 3) F dL_law_835 (by decide) ?_
  refine ex_iadd F dL_law_836 ?_
  refine ex_sc (j := i + 3) hS9 (nI_add i 3) (by omega) F dL_law_837 ?_
  refine ex_aload_n F dL_law_838 rfl rfl ?_
  refine ex_iload_n F dL_law_839 rfl rfl ?_
  refine ex_iconst (v := 4) F dL_law_840 (by decide) ?_
  refine ex_iadd F dL_law_841 ?_
  refine ex_sc (j := i + 4) hS9 (nI_add i 4) (by omega) F dL_law_842 ?_
  refine ex_callVl F (op_wash (l := x_l x) hB) dL_law_843 cs_L_law_109 ob_7 rfl rfl rfl rfl (Nat.le_of_ble_eq_true rfl) (fun v843 M843 h843 => ?_)
  refine ex_aload_n F dL_law_846 rfl rfl ?_
  refine ex_aload_n F dL_law_847 rfl rfl ?_
  refine ex_iload_n F dL_law_848 rfl rfl ?_
  refine ex_iconst (v := 1) F dL_law_849 (by decide) ?_
  refine ex_iadd F dL_law_850 ?_
  refine ex_sc (j := i + 1) hS9 (nI_add i 1) (by omega) F dL_law_851 ?_
  refine ex_aload_n F dL_law_852 rfl rfl ?_
  refine ex_iload_n F dL_law_853 rfl rfl ?_
  refine ex_iconst (v := 2) F dL_law_854 (by decide) ?_
  refine ex_iadd F dL_law_855 ?_
  refine ex_sc (j := i + 2) hS9 (nI_add i 2) (by omega) F dL_law_856 ?_
  refine ex_aload_n F dL_law_857 rfl rfl ?_
  refine ex_iload_n F dL_law_858 rfl rfl ?_
  refine ex_iconst (v := 3) F dL_law_859 (by decide) ?_
  refine ex_iadd F dL_law_860 ?_
  refine ex_sc (j := i + 3) hS9 (nI_add i 3) (by omega) F dL_law_861 ?_
  refine ex_aload_n F dL_law_862 rfl rfl ?_
  refine ex_iload_n F dL_law_863 rfl rfl ?_
  refine ex_iconst (v := 4) F dL_law_864 (by decide) ?_
  refine ex_iadd F dL_law_865 ?_
  refine ex_sc (j := i + 4) hS9 (nI_add i 4) (by omega) F dL_law_866 ?_
  refine ex_callVl F (h843) dL_law_867 cs_L_law_113 ob_8 rfl rfl rfl rfl (Nat.le_of_ble_eq_true rfl) (fun v867 M867 h867 => ?_)
  obtain ⟨rfl, hB2⟩ := h867
  refine ex_lcmp F dL_law_870 ?_
  rw [cmp_rf]
  refine ex_if_eq (t := 1449) F dL_law_871 (by decide) (fun _ => ?_) (fun c => absurd rfl c)
  exact ex_weak2 (nx9 _ hB2) ⟨rfl, rfl, rfl, rfl, trivial⟩
theorem cs_L_law_114 : CSV (xmN YL_law).cls (xmF YL_law) (xmW YL_law) 114 4 YX7_washes := ⟨⟨ml_L_114, ini_X7, cd_X7_washes, by decide +kernel, by decide⟩, im_X7_washes, se_X7_washes⟩
theorem cs_L_law_118 : CSV (xmN YL_law).cls (xmF YL_law) (xmW YL_law) 118 4 YX8_washes := ⟨⟨ml_L_118, ini_X8, cd_X8_washes, by decide +kernel, by decide⟩, im_X8_washes, se_X8_washes⟩
set_option maxRecDepth 100000 in
theorem lc_23 {x : XC} {g : XG} {b n i T : Nat} {xs : Nat → Int32} {M : Mem} (F : XF x g YL_law) (hS9 : SC x b n xs) (hi : i + 5 < n) (hB : BW M T) (hT : T + 9000 < 2 ^ 31) (nx9 : ∀ M', BW M' (T + 8000) → EX x g (xmL YL_law) M' 1449 [(0, .ref b), (1, .ref (ad g 0)), (2, .ref (ad g 38)), (3, .int (nI i))] []) : EX x g (xmL YL_law) M 876 [(0, .ref b), (1, .ref (ad g 0)), (2, .ref (ad g 38)), (3, .int (nI i))] [] := by
  refine ex_aload_n F dL_law_876 rfl rfl ?_
  refine ex_aload_n F dL_law_877 rfl rfl ?_
  refine ex_iload_n F dL_law_878 rfl rfl ?_
  refine ex_iconst (v := 1) F dL_law_879 (by decide) ?_
  refine ex_iadd F dL_law_880 ?_
  refine ex_sc (j := i + 1) hS9 (nI_add i 1) (by omega) F dL_law_881 ?_
  refine ex_aload_n F dL_law_882 rfl rfl ?_
  refine ex_iload_n F dL_law_883 rfl rfl ?_
  refine ex_iconst (v := 2) F dL_law_884 (by decide) ?_
  refine ex_iadd F dL_law_885 ?_
  refine ex_sc (j := i + 2) hS9 (nI_add i 2) (by omega) F dL_law_886 ?_
  refine ex_aload_n F dL_law_887 rfl rfl ?_
  refine ex_iload_n F dL_law_888 rfl rfl ?_
  refine ex_iconst (v := 3) F dL_law_889 (by decide) ?_
  refine ex_iadd F dL_law_890 ?_
  refine ex_sc (j := i + 3) hS9 (nI_add i 3) (by omega) F dL_law_891 ?_
  refine ex_aload_n F dL_law_892 rfl rfl ?_
  refine ex_iload_n F dL_law_893 rfl rfl ?_
  refine ex_iconst (v := 4) F dL_law_894 (by decide) ?_
  refine ex_iadd F dL_law_895 ?_
  refine ex_sc (j := i + 4) hS9 (nI_add i 4) (by omega) F dL_law_896 ?_
  refine ex_callVi F (op_washes (l := x_l x) hB) dL_law_897 cs_L_law_114 ob_7 rfl rfl rfl rfl (Nat.le_of_ble_eq_true rfl) (fun v897 M897 h897 => ?_)
  refine ex_aload_n F dL_law_900 rfl rfl ?_
  refine ex_aload_n F dL_law_901 rfl rfl ?_
  refine ex_iload_n F dL_law_902 rfl rfl ?_
  refine ex_iconst (v := 1) F dL_law_903 (by decide) ?_
  refine ex_iadd F dL_law_904 ?_
  refine ex_sc (j := i + 1) hS9 (nI_add i 1) (by omega) F dL_law_905 ?_
  refine ex_aload_n F dL_law_906 rfl rfl ?_
  refine ex_iload_n F dL_law_907 rfl rfl ?_
  refine ex_iconst (v := 2) F dL_law_908 (by decide) ?_
  refine ex_iadd F dL_law_909 ?_
  refine ex_sc (j := i + 2) hS9 (nI_add i 2) (by omega) F dL_law_910 ?_
  refine ex_aload_n F dL_law_911 rfl rfl ?_
  refine ex_iload_n F dL_law_912 rfl rfl ?_
  refine ex_iconst (v := 3) F dL_law_913 (by decide) ?_
  refine ex_iadd F dL_law_914 ?_
  refine ex_sc (j := i + 3) hS9 (nI_add i 3) (by omega) F dL_law_915 ?_
  refine ex_aload_n F dL_law_916 rfl rfl ?_
  refine ex_iload_n F dL_law_917 rfl rfl ?_
  refine ex_iconst (v := 4) F dL_law_918 (by decide) ?_
  refine ex_iadd F dL_law_919 ?_
  refine ex_sc (j := i + 4) hS9 (nI_add i 4) (by omega) F dL_law_920 ?_
  refine ex_callVi F (h897) dL_law_921 cs_L_law_118 ob_8 rfl rfl rfl rfl (Nat.le_of_ble_eq_true rfl) (fun v921 M921 h921 => ?_)
  obtain ⟨rfl, hB2⟩ := h921
  refine ex_icmp_eq (t := 1449) F dL_law_924 (by decide) (fun _ => ?_) (fun c => absurd rfl c)
  exact ex_weak2 (nx9 _ hB2) ⟨rfl, rfl, rfl, rfl, trivial⟩
theorem cs_L_law_119 : CSV (xmN YL_law).cls (xmF YL_law) (xmW YL_law) 119 2 YX7_split := ⟨⟨ml_L_119, ini_X7, cd_X7_split, by decide +kernel, by decide⟩, im_X7_split, se_X7_split⟩
theorem cs_L_law_122 : CSV (xmN YL_law).cls (xmF YL_law) (xmW YL_law) 122 2 YX8_split := ⟨⟨ml_L_122, ini_X8, cd_X8_split, by decide +kernel, by decide⟩, im_X8_split, se_X8_split⟩
set_option maxRecDepth 100000 in
theorem lc_24 {x : XC} {g : XG} {b n i T : Nat} {xs : Nat → Int32} {M : Mem} (F : XF x g YL_law) (hS9 : SC x b n xs) (hi : i + 5 < n) (hB : BW M T) (hT : T + 9000 < 2 ^ 31) (nx9 : ∀ M', BW M' (T + 8000) → EX x g (xmL YL_law) M' 1449 [(0, .ref b), (1, .ref (ad g 0)), (2, .ref (ad g 38)), (3, .int (nI i))] []) : EX x g (xmL YL_law) M 929 [(0, .ref b), (1, .ref (ad g 0)), (2, .ref (ad g 38)), (3, .int (nI i))] [] := by
  refine ex_aload_n F dL_law_929 rfl rfl ?_
  refine ex_aload_n F dL_law_930 rfl rfl ?_
  refine ex_iload_n F dL_law_931 rfl rfl ?_
  refine ex_iconst (v := 1) F dL_law_932 (by decide) ?_
  refine ex_iadd F dL_law_933 ?_
  refine ex_sc (j := i + 1) hS9 (nI_add i 1) (by omega) F dL_law_934 ?_
  refine ex_aload_n F dL_law_935 rfl rfl ?_
  refine ex_iload_n F dL_law_936 rfl rfl ?_
  refine ex_iconst (v := 2) F dL_law_937 (by decide) ?_
  refine ex_iadd F dL_law_938 ?_
  refine ex_sc (j := i + 2) hS9 (nI_add i 2) (by omega) F dL_law_939 ?_
  refine ex_callVi F (op_split (l := x_l x) hB) dL_law_940 cs_L_law_119 ob_7 rfl rfl rfl rfl (Nat.le_of_ble_eq_true rfl) (fun v940 M940 h940 => ?_)
  refine ex_aload_n F dL_law_943 rfl rfl ?_
  refine ex_aload_n F dL_law_944 rfl rfl ?_
  refine ex_iload_n F dL_law_945 rfl rfl ?_
  refine ex_iconst (v := 1) F dL_law_946 (by decide) ?_
  refine ex_iadd F dL_law_947 ?_
  refine ex_sc (j := i + 1) hS9 (nI_add i 1) (by omega) F dL_law_948 ?_
  refine ex_aload_n F dL_law_949 rfl rfl ?_
  refine ex_iload_n F dL_law_950 rfl rfl ?_
  refine ex_iconst (v := 2) F dL_law_951 (by decide) ?_
  refine ex_iadd F dL_law_952 ?_
  refine ex_sc (j := i + 2) hS9 (nI_add i 2) (by omega) F dL_law_953 ?_
  refine ex_callVi F (h940) dL_law_954 cs_L_law_122 ob_8 rfl rfl rfl rfl (Nat.le_of_ble_eq_true rfl) (fun v954 M954 h954 => ?_)
  obtain ⟨rfl, hB2⟩ := h954
  refine ex_icmp_eq (t := 1449) F dL_law_957 (by decide) (fun _ => ?_) (fun c => absurd rfl c)
  exact ex_weak2 (nx9 _ hB2) ⟨rfl, rfl, rfl, rfl, trivial⟩
theorem cs_L_law_123 : CSV (xmN YL_law).cls (xmF YL_law) (xmW YL_law) 123 3 YX7_worked := ⟨⟨ml_L_123, ini_X7, cd_X7_worked, by decide +kernel, by decide⟩, im_X7_worked, se_X7_worked⟩
theorem cs_L_law_126 : CSV (xmN YL_law).cls (xmF YL_law) (xmW YL_law) 126 3 YX8_worked := ⟨⟨ml_L_126, ini_X8, cd_X8_worked, by decide +kernel, by decide⟩, im_X8_worked, se_X8_worked⟩
set_option maxRecDepth 100000 in
theorem lc_25 {x : XC} {g : XG} {b n i T : Nat} {xs : Nat → Int32} {M : Mem} (F : XF x g YL_law) (hS9 : SC x b n xs) (hi : i + 5 < n) (hB : BW M T) (hT : T + 9000 < 2 ^ 31) (nx9 : ∀ M', BW M' (T + 8000) → EX x g (xmL YL_law) M' 1449 [(0, .ref b), (1, .ref (ad g 0)), (2, .ref (ad g 38)), (3, .int (nI i))] []) : EX x g (xmL YL_law) M 962 [(0, .ref b), (1, .ref (ad g 0)), (2, .ref (ad g 38)), (3, .int (nI i))] [] := by
  refine ex_aload_n F dL_law_962 rfl rfl ?_
  refine ex_aload_n F dL_law_963 rfl rfl ?_
  refine ex_iload_n F dL_law_964 rfl rfl ?_
  refine ex_iconst (v := 1) F dL_law_965 (by decide) ?_
  refine ex_iadd F dL_law_966 ?_
  refine ex_sc (j := i + 1) hS9 (nI_add i 1) (by omega) F dL_law_967 ?_
  refine ex_aload_n F dL_law_968 rfl rfl ?_
  refine ex_iload_n F dL_law_969 rfl rfl ?_
  refine ex_iconst (v := 2) F dL_law_970 (by decide) ?_
  refine ex_iadd F dL_law_971 ?_
  refine ex_sc (j := i + 2) hS9 (nI_add i 2) (by omega) F dL_law_972 ?_
  refine ex_aload_n F dL_law_973 rfl rfl ?_
  refine ex_iload_n F dL_law_974 rfl rfl ?_
  refine ex_iconst (v := 3) F dL_law_975 (by decide) ?_
  refine ex_iadd F dL_law_976 ?_
  refine ex_sc (j := i + 3) hS9 (nI_add i 3) (by omega) F dL_law_977 ?_
  refine ex_callVi F (op_worked (l := x_l x) hB) dL_law_978 cs_L_law_123 ob_7 rfl rfl rfl rfl (Nat.le_of_ble_eq_true rfl) (fun v978 M978 h978 => ?_)
  refine ex_aload_n F dL_law_981 rfl rfl ?_
  refine ex_aload_n F dL_law_982 rfl rfl ?_
  refine ex_iload_n F dL_law_983 rfl rfl ?_
  refine ex_iconst (v := 1) F dL_law_984 (by decide) ?_
  refine ex_iadd F dL_law_985 ?_
  refine ex_sc (j := i + 1) hS9 (nI_add i 1) (by omega) F dL_law_986 ?_
  refine ex_aload_n F dL_law_987 rfl rfl ?_
  refine ex_iload_n F dL_law_988 rfl rfl ?_
  refine ex_iconst (v := 2) F dL_law_989 (by decide) ?_
  refine ex_iadd F dL_law_990 ?_
  refine ex_sc (j := i + 2) hS9 (nI_add i 2) (by omega) F dL_law_991 ?_
  refine ex_aload_n F dL_law_992 rfl rfl ?_
  refine ex_iload_n F dL_law_993 rfl rfl ?_
  refine ex_iconst (v := 3) F dL_law_994 (by decide) ?_
  refine ex_iadd F dL_law_995 ?_
  refine ex_sc (j := i + 3) hS9 (nI_add i 3) (by omega) F dL_law_996 ?_
  refine ex_callVi F (h978) dL_law_997 cs_L_law_126 ob_8 rfl rfl rfl rfl (Nat.le_of_ble_eq_true rfl) (fun v997 M997 h997 => ?_)
  obtain ⟨rfl, hB2⟩ := h997
  refine ex_icmp_eq (t := 1449) F dL_law_1000 (by decide) (fun _ => ?_) (fun c => absurd rfl c)
  exact ex_weak2 (nx9 _ hB2) ⟨rfl, rfl, rfl, rfl, trivial⟩
theorem cs_L_law_127 : CSV (xmN YL_law).cls (xmF YL_law) (xmW YL_law) 127 2 YX7_keeps := ⟨⟨ml_L_127, ini_X7, cd_X7_keeps, by decide +kernel, by decide⟩, im_X7_keeps, se_X7_keeps⟩
theorem cs_L_law_130 : CSV (xmN YL_law).cls (xmF YL_law) (xmW YL_law) 130 2 YX8_keeps := ⟨⟨ml_L_130, ini_X8, cd_X8_keeps, by decide +kernel, by decide⟩, im_X8_keeps, se_X8_keeps⟩
set_option maxRecDepth 100000 in
theorem lc_26 {x : XC} {g : XG} {b n i T : Nat} {xs : Nat → Int32} {M : Mem} (F : XF x g YL_law) (hS9 : SC x b n xs) (hi : i + 5 < n) (hB : BW M T) (hT : T + 9000 < 2 ^ 31) (nx9 : ∀ M', BW M' (T + 8000) → EX x g (xmL YL_law) M' 1449 [(0, .ref b), (1, .ref (ad g 0)), (2, .ref (ad g 38)), (3, .int (nI i))] []) : EX x g (xmL YL_law) M 1005 [(0, .ref b), (1, .ref (ad g 0)), (2, .ref (ad g 38)), (3, .int (nI i))] [] := by
  refine ex_aload_n F dL_law_1005 rfl rfl ?_
  refine ex_aload_n F dL_law_1006 rfl rfl ?_
  refine ex_iload_n F dL_law_1007 rfl rfl ?_
  refine ex_iconst (v := 1) F dL_law_1008 (by decide) ?_
  refine ex_iadd F dL_law_1009 ?_
  refine ex_sc (j := i + 1) hS9 (nI_add i 1) (by omega) F dL_law_1010 ?_
  refine ex_aload_n F dL_law_1011 rfl rfl ?_
  refine ex_iload_n F dL_law_1012 rfl rfl ?_
  refine ex_iconst (v := 2) F dL_law_1013 (by decide) ?_
  refine ex_iadd F dL_law_1014 ?_
  refine ex_sc (j := i + 2) hS9 (nI_add i 2) (by omega) F dL_law_1015 ?_
  refine ex_callVi F (op_keeps (l := x_l x) hB) dL_law_1016 cs_L_law_127 ob_7 rfl rfl rfl rfl (Nat.le_of_ble_eq_true rfl) (fun v1016 M1016 h1016 => ?_)
  refine ex_aload_n F dL_law_1019 rfl rfl ?_
  refine ex_aload_n F dL_law_1020 rfl rfl ?_
  refine ex_iload_n F dL_law_1021 rfl rfl ?_
  refine ex_iconst (v := 1) F dL_law_1022 (by decide) ?_
  refine ex_iadd F dL_law_1023 ?_
  refine ex_sc (j := i + 1) hS9 (nI_add i 1) (by omega) F dL_law_1024 ?_
  refine ex_aload_n F dL_law_1025 rfl rfl ?_
  refine ex_iload_n F dL_law_1026 rfl rfl ?_
  refine ex_iconst (v := 2) F dL_law_1027 (by decide) ?_
  refine ex_iadd F dL_law_1028 ?_
  refine ex_sc (j := i + 2) hS9 (nI_add i 2) (by omega) F dL_law_1029 ?_
  refine ex_callVi F (h1016) dL_law_1030 cs_L_law_130 ob_8 rfl rfl rfl rfl (Nat.le_of_ble_eq_true rfl) (fun v1030 M1030 h1030 => ?_)
  obtain ⟨rfl, hB2⟩ := h1030
  refine ex_icmp_eq (t := 1449) F dL_law_1033 (by decide) (fun _ => ?_) (fun c => absurd rfl c)
  exact ex_weak2 (nx9 _ hB2) ⟨rfl, rfl, rfl, rfl, trivial⟩
theorem cs_L_law_131 : CSV (xmN YL_law).cls (xmF YL_law) (xmW YL_law) 131 5 YX7_rod := ⟨⟨ml_L_131, ini_X7, cd_X7_rod, by decide +kernel, by decide⟩, im_X7_rod, se_X7_rod⟩
theorem cs_L_law_134 : CSV (xmN YL_law).cls (xmF YL_law) (xmW YL_law) 134 5 YX8_rod := ⟨⟨ml_L_134, ini_X8, cd_X8_rod, by decide +kernel, by decide⟩, im_X8_rod, se_X8_rod⟩
set_option maxRecDepth 100000 in
theorem lc_27 {x : XC} {g : XG} {b n i T : Nat} {xs : Nat → Int32} {M : Mem} (F : XF x g YL_law) (hS9 : SC x b n xs) (hi : i + 5 < n) (hB : BW M T) (hT : T + 9000 < 2 ^ 31) (nx9 : ∀ M', BW M' (T + 8000) → EX x g (xmL YL_law) M' 1449 [(0, .ref b), (1, .ref (ad g 0)), (2, .ref (ad g 38)), (3, .int (nI i))] []) : EX x g (xmL YL_law) M 1038 [(0, .ref b), (1, .ref (ad g 0)), (2, .ref (ad g 38)), (3, .int (nI i))] [] := by
  refine ex_aload_n F dL_law_1038 rfl rfl ?_
  refine ex_aload_n F dL_law_1039 rfl rfl ?_
  refine ex_iload_n F dL_law_1040 rfl rfl ?_
  refine ex_iconst (v := 1) F dL_law_1041 (by decide) ?_
  refine ex_iadd F dL_law_1042 ?_
  refine ex_sc (j := i + 1) hS9 (nI_add i 1) (by omega) F dL_law_1043 ?_
  refine ex_aload_n F dL_law_1044 rfl rfl ?_
  refine ex_iload_n F dL_law_1045 rfl rfl ?_
  refine ex_iconst (v := 2) F dL_law_1046 (by decide) ?_
  refine ex_iadd F dL_law_1047 ?_
  refine ex_sc (j := i + 2) hS9 (nI_add i 2) (by omega) F dL_law_1048 ?_
  refine ex_aload_n F dL_law_1049 rfl rfl ?_
  refine ex_iload_n F dL_law_1050 rfl rfl ?_
  refine ex_iconst (v := 3) F dL_law_1051 (by decide) ?_
  refine ex_iadd F dL_law_1052 ?_
  refine ex_sc (j := i + 3) hS9 (nI_add i 3) (by omega) F dL_law_1053 ?_
  refine ex_aload_n F dL_law_1054 rfl rfl ?_
  refine ex_iload_n F dL_law_1055 rfl rfl ?_
  refine ex_iconst (v := 4) F dL_law_1056 (by decide) ?_
  refine ex_iadd F dL_law_1057 ?_
  refine ex_sc (j := i + 4) hS9 (nI_add i 4) (by omega) F dL_law_1058 ?_
  refine ex_aload_n F dL_law_1059 rfl rfl ?_
  refine ex_iload_n F dL_law_1060 rfl rfl ?_
  refine ex_iconst (v := 5) F dL_law_1061 (by decide) ?_
  refine ex_iadd F dL_law_1062 ?_
  refine ex_sc (j := i + 5) hS9 (nI_add i 5) (by omega) F dL_law_1063 ?_
  refine ex_callVi F (op_rod (l := x_l x) hB) dL_law_1064 cs_L_law_131 ob_7 rfl rfl rfl rfl (Nat.le_of_ble_eq_true rfl) (fun v1064 M1064 h1064 => ?_)
  refine ex_aload_n F dL_law_1067 rfl rfl ?_
  refine ex_aload_n F dL_law_1068 rfl rfl ?_
  refine ex_iload_n F dL_law_1069 rfl rfl ?_
  refine ex_iconst (v := 1) F dL_law_1070 (by decide) ?_
  refine ex_iadd F dL_law_1071 ?_
  refine ex_sc (j := i + 1) hS9 (nI_add i 1) (by omega) F dL_law_1072 ?_
  refine ex_aload_n F dL_law_1073 rfl rfl ?_
  refine ex_iload_n F dL_law_1074 rfl rfl ?_
  refine ex_iconst (v := 2) F dL_law_1075 (by decide) ?_
  refine ex_iadd F dL_law_1076 ?_
  refine ex_sc (j := i + 2) hS9 (nI_add i 2) (by omega) F dL_law_1077 ?_
  refine ex_aload_n F dL_law_1078 rfl rfl ?_
  refine ex_iload_n F dL_law_1079 rfl rfl ?_
  refine ex_iconst (v := 3) F dL_law_1080 (by decide) ?_
  refine ex_iadd F dL_law_1081 ?_
  refine ex_sc (j := i + 3) hS9 (nI_add i 3) (by omega) F dL_law_1082 ?_
  refine ex_aload_n F dL_law_1083 rfl rfl ?_
  refine ex_iload_n F dL_law_1084 rfl rfl ?_
  refine ex_iconst (v := 4) F dL_law_1085 (by decide) ?_
  refine ex_iadd F dL_law_1086 ?_
  refine ex_sc (j := i + 4) hS9 (nI_add i 4) (by omega) F dL_law_1087 ?_
  refine ex_aload_n F dL_law_1088 rfl rfl ?_
  refine ex_iload_n F dL_law_1089 rfl rfl ?_
  refine ex_iconst (v := 5) F dL_law_1090 (by decide) ?_
  refine ex_iadd F dL_law_1091 ?_
  refine ex_sc (j := i + 5) hS9 (nI_add i 5) (by omega) F dL_law_1092 ?_
  refine ex_callVi F (h1064) dL_law_1093 cs_L_law_134 ob_8 rfl rfl rfl rfl (Nat.le_of_ble_eq_true rfl) (fun v1093 M1093 h1093 => ?_)
  obtain ⟨rfl, hB2⟩ := h1093
  refine ex_icmp_eq (t := 1449) F dL_law_1096 (by decide) (fun _ => ?_) (fun c => absurd rfl c)
  exact ex_weak2 (nx9 _ hB2) ⟨rfl, rfl, rfl, rfl, trivial⟩
theorem cs_L_law_135 : CSV (xmN YL_law).cls (xmF YL_law) (xmW YL_law) 135 5 YX7_near := ⟨⟨ml_L_135, ini_X7, cd_X7_near, by decide +kernel, by decide⟩, im_X7_near, se_X7_near⟩
theorem cs_L_law_138 : CSV (xmN YL_law).cls (xmF YL_law) (xmW YL_law) 138 5 YX8_near := ⟨⟨ml_L_138, ini_X8, cd_X8_near, by decide +kernel, by decide⟩, im_X8_near, se_X8_near⟩
set_option maxRecDepth 100000 in
theorem lc_28 {x : XC} {g : XG} {b n i T : Nat} {xs : Nat → Int32} {M : Mem} (F : XF x g YL_law) (hS9 : SC x b n xs) (hi : i + 5 < n) (hB : BW M T) (hT : T + 9000 < 2 ^ 31) (nx9 : ∀ M', BW M' (T + 8000) → EX x g (xmL YL_law) M' 1449 [(0, .ref b), (1, .ref (ad g 0)), (2, .ref (ad g 38)), (3, .int (nI i))] []) : EX x g (xmL YL_law) M 1101 [(0, .ref b), (1, .ref (ad g 0)), (2, .ref (ad g 38)), (3, .int (nI i))] [] := by
  refine ex_aload_n F dL_law_1101 rfl rfl ?_
  refine ex_aload_n F dL_law_1102 rfl rfl ?_
  refine ex_iload_n F dL_law_1103 rfl rfl ?_
  refine ex_iconst (v := 1) F dL_law_1104 (by decide) ?_
  refine ex_iadd F dL_law_1105 ?_
  refine ex_sc (j := i + 1) hS9 (nI_add i 1) (by omega) F dL_law_1106 ?_
  refine ex_aload_n F dL_law_1107 rfl rfl ?_
  refine ex_iload_n F dL_law_1108 rfl rfl ?_
  refine ex_iconst (v := 2) F dL_law_1109 (by decide) ?_
  refine ex_iadd F dL_law_1110 ?_
  refine ex_sc (j := i + 2) hS9 (nI_add i 2) (by omega) F dL_law_1111 ?_
  refine ex_aload_n F dL_law_1112 rfl rfl ?_
  refine ex_iload_n F dL_law_1113 rfl rfl ?_
  refine ex_iconst (v := 3) F dL_law_1114 (by decide) ?_
  refine ex_iadd F dL_law_1115 ?_
  refine ex_sc (j := i + 3) hS9 (nI_add i 3) (by omega) F dL_law_1116 ?_
  refine ex_aload_n F dL_law_1117 rfl rfl ?_
  refine ex_iload_n F dL_law_1118 rfl rfl ?_
  refine ex_iconst (v := 4) F dL_law_1119 (by decide) ?_
  refine ex_iadd F dL_law_1120 ?_
  refine ex_sc (j := i + 4) hS9 (nI_add i 4) (by omega) F dL_law_1121 ?_
  refine ex_aload_n F dL_law_1122 rfl rfl ?_
  refine ex_iload_n F dL_law_1123 rfl rfl ?_
  refine ex_iconst (v := 5) F dL_law_1124 (by decide) ?_
  refine ex_iadd F dL_law_1125 ?_
  refine ex_sc (j := i + 5) hS9 (nI_add i 5) (by omega) F dL_law_1126 ?_
  refine ex_callVi F (op_near (l := x_l x) hB) dL_law_1127 cs_L_law_135 ob_7 rfl rfl rfl rfl (Nat.le_of_ble_eq_true rfl) (fun v1127 M1127 h1127 => ?_)
  refine ex_aload_n F dL_law_1130 rfl rfl ?_
  refine ex_aload_n F dL_law_1131 rfl rfl ?_
  refine ex_iload_n F dL_law_1132 rfl rfl ?_
  refine ex_iconst (v := 1) F dL_law_1133 (by decide) ?_
  refine ex_iadd F dL_law_1134 ?_
  refine ex_sc (j := i + 1) hS9 (nI_add i 1) (by omega) F dL_law_1135 ?_
  refine ex_aload_n F dL_law_1136 rfl rfl ?_
  refine ex_iload_n F dL_law_1137 rfl rfl ?_
  refine ex_iconst (v := 2) F dL_law_1138 (by decide) ?_
  refine ex_iadd F dL_law_1139 ?_
  refine ex_sc (j := i + 2) hS9 (nI_add i 2) (by omega) F dL_law_1140 ?_
  refine ex_aload_n F dL_law_1141 rfl rfl ?_
  refine ex_iload_n F dL_law_1142 rfl rfl ?_
  refine ex_iconst (v := 3) F dL_law_1143 (by decide) ?_
  refine ex_iadd F dL_law_1144 ?_
  refine ex_sc (j := i + 3) hS9 (nI_add i 3) (by omega) F dL_law_1145 ?_
  refine ex_aload_n F dL_law_1146 rfl rfl ?_
  refine ex_iload_n F dL_law_1147 rfl rfl ?_
  refine ex_iconst (v := 4) F dL_law_1148 (by decide) ?_
  refine ex_iadd F dL_law_1149 ?_
  refine ex_sc (j := i + 4) hS9 (nI_add i 4) (by omega) F dL_law_1150 ?_
  refine ex_aload_n F dL_law_1151 rfl rfl ?_
  refine ex_iload_n F dL_law_1152 rfl rfl ?_
  refine ex_iconst (v := 5) F dL_law_1153 (by decide) ?_
  refine ex_iadd F dL_law_1154 ?_
  refine ex_sc (j := i + 5) hS9 (nI_add i 5) (by omega) F dL_law_1155 ?_
  refine ex_callVi F (h1127) dL_law_1156 cs_L_law_138 ob_8 rfl rfl rfl rfl (Nat.le_of_ble_eq_true rfl) (fun v1156 M1156 h1156 => ?_)
  obtain ⟨rfl, hB2⟩ := h1156
  refine ex_icmp_eq (t := 1449) F dL_law_1159 (by decide) (fun _ => ?_) (fun c => absurd rfl c)
  exact ex_weak2 (nx9 _ hB2) ⟨rfl, rfl, rfl, rfl, trivial⟩
theorem cs_L_law_139 : CSV (xmN YL_law).cls (xmF YL_law) (xmW YL_law) 139 5 YX7_witch := ⟨⟨ml_L_139, ini_X7, cd_X7_witch, by decide +kernel, by decide⟩, im_X7_witch, se_X7_witch⟩
theorem cs_L_law_143 : CSV (xmN YL_law).cls (xmF YL_law) (xmW YL_law) 143 5 YX8_witch := ⟨⟨ml_L_143, ini_X8, cd_X8_witch, by decide +kernel, by decide⟩, im_X8_witch, se_X8_witch⟩
set_option maxRecDepth 100000 in
theorem lc_29 {x : XC} {g : XG} {b n i T : Nat} {xs : Nat → Int32} {M : Mem} (F : XF x g YL_law) (hS9 : SC x b n xs) (hi : i + 5 < n) (hB : BW M T) (hT : T + 9000 < 2 ^ 31) (nx9 : ∀ M', BW M' (T + 8000) → EX x g (xmL YL_law) M' 1449 [(0, .ref b), (1, .ref (ad g 0)), (2, .ref (ad g 38)), (3, .int (nI i))] []) : EX x g (xmL YL_law) M 1164 [(0, .ref b), (1, .ref (ad g 0)), (2, .ref (ad g 38)), (3, .int (nI i))] [] := by
  refine ex_aload_n F dL_law_1164 rfl rfl ?_
  refine ex_aload_n F dL_law_1165 rfl rfl ?_
  refine ex_iload_n F dL_law_1166 rfl rfl ?_
  refine ex_iconst (v := 1) F dL_law_1167 (by decide) ?_
  refine ex_iadd F dL_law_1168 ?_
  refine ex_sc (j := i + 1) hS9 (nI_add i 1) (by omega) F dL_law_1169 ?_
  refine ex_aload_n F dL_law_1170 rfl rfl ?_
  refine ex_iload_n F dL_law_1171 rfl rfl ?_
  refine ex_iconst (v := 2) F dL_law_1172 (by decide) ?_
  refine ex_iadd F dL_law_1173 ?_
  refine ex_sc (j := i + 2) hS9 (nI_add i 2) (by omega) F dL_law_1174 ?_
  refine ex_aload_n F dL_law_1175 rfl rfl ?_
  refine ex_iload_n F dL_law_1176 rfl rfl ?_
  refine ex_iconst (v := 3) F dL_law_1177 (by decide) ?_
  refine ex_iadd F dL_law_1178 ?_
  refine ex_sc (j := i + 3) hS9 (nI_add i 3) (by omega) F dL_law_1179 ?_
  refine ex_aload_n F dL_law_1180 rfl rfl ?_
  refine ex_iload_n F dL_law_1181 rfl rfl ?_
  refine ex_iconst (v := 4) F dL_law_1182 (by decide) ?_
  refine ex_iadd F dL_law_1183 ?_
  refine ex_sc (j := i + 4) hS9 (nI_add i 4) (by omega) F dL_law_1184 ?_
  refine ex_aload_n F dL_law_1185 rfl rfl ?_
  refine ex_iload_n F dL_law_1186 rfl rfl ?_
  refine ex_iconst (v := 5) F dL_law_1187 (by decide) ?_
  refine ex_iadd F dL_law_1188 ?_
  refine ex_sc (j := i + 5) hS9 (nI_add i 5) (by omega) F dL_law_1189 ?_
  refine ex_callVl F (op_witch (l := x_l x) hB) dL_law_1190 cs_L_law_139 ob_7 rfl rfl rfl rfl (Nat.le_of_ble_eq_true rfl) (fun v1190 M1190 h1190 => ?_)
  refine ex_aload_n F dL_law_1193 rfl rfl ?_
  refine ex_aload_n F dL_law_1194 rfl rfl ?_
  refine ex_iload_n F dL_law_1195 rfl rfl ?_
  refine ex_iconst (v := 1) F dL_law_1196 (by decide) ?_
  refine ex_iadd F dL_law_1197 ?_
  refine ex_sc (j := i + 1) hS9 (nI_add i 1) (by omega) F dL_law_1198 ?_
  refine ex_aload_n F dL_law_1199 rfl rfl ?_
  refine ex_iload_n F dL_law_1200 rfl rfl ?_
  refine ex_iconst (v := 2) F dL_law_1201 (by decide) ?_
  refine ex_iadd F dL_law_1202 ?_
  refine ex_sc (j := i + 2) hS9 (nI_add i 2) (by omega) F dL_law_1203 ?_
  refine ex_aload_n F dL_law_1204 rfl rfl ?_
  refine ex_iload_n F dL_law_1205 rfl rfl ?_
  refine ex_iconst (v := 3) F dL_law_1206 (by decide) ?_
  refine ex_iadd F dL_law_1207 ?_
  refine ex_sc (j := i + 3) hS9 (nI_add i 3) (by omega) F dL_law_1208 ?_
  refine ex_aload_n F dL_law_1209 rfl rfl ?_
  refine ex_iload_n F dL_law_1210 rfl rfl ?_
  refine ex_iconst (v := 4) F dL_law_1211 (by decide) ?_
  refine ex_iadd F dL_law_1212 ?_
  refine ex_sc (j := i + 4) hS9 (nI_add i 4) (by omega) F dL_law_1213 ?_
  refine ex_aload_n F dL_law_1214 rfl rfl ?_
  refine ex_iload_n F dL_law_1215 rfl rfl ?_
  refine ex_iconst (v := 5) F dL_law_1216 (by decide) ?_
  refine ex_iadd F dL_law_1217 ?_
  refine ex_sc (j := i + 5) hS9 (nI_add i 5) (by omega) F dL_law_1218 ?_
  refine ex_callVl F (h1190) dL_law_1219 cs_L_law_143 ob_8 rfl rfl rfl rfl (Nat.le_of_ble_eq_true rfl) (fun v1219 M1219 h1219 => ?_)
  obtain ⟨rfl, hB2⟩ := h1219
  refine ex_lcmp F dL_law_1222 ?_
  rw [cmp_rf]
  refine ex_if_eq (t := 1449) F dL_law_1223 (by decide) (fun _ => ?_) (fun c => absurd rfl c)
  exact ex_weak2 (nx9 _ hB2) ⟨rfl, rfl, rfl, rfl, trivial⟩
theorem cs_L_law_144 : CSV (xmN YL_law).cls (xmF YL_law) (xmW YL_law) 144 1 YX7_keep := ⟨⟨ml_L_144, ini_X7, cd_X7_keep, by decide +kernel, by decide⟩, im_X7_keep, se_X7_keep⟩
theorem cs_L_law_147 : CSV (xmN YL_law).cls (xmF YL_law) (xmW YL_law) 147 1 YX8_keep := ⟨⟨ml_L_147, ini_X8, cd_X8_keep, by decide +kernel, by decide⟩, im_X8_keep, se_X8_keep⟩
set_option maxRecDepth 100000 in
theorem lc_30 {x : XC} {g : XG} {b n i T : Nat} {xs : Nat → Int32} {M : Mem} (F : XF x g YL_law) (hS9 : SC x b n xs) (hi : i + 5 < n) (hB : BW M T) (hT : T + 9000 < 2 ^ 31) (nx9 : ∀ M', BW M' (T + 8000) → EX x g (xmL YL_law) M' 1449 [(0, .ref b), (1, .ref (ad g 0)), (2, .ref (ad g 38)), (3, .int (nI i))] []) : EX x g (xmL YL_law) M 1228 [(0, .ref b), (1, .ref (ad g 0)), (2, .ref (ad g 38)), (3, .int (nI i))] [] := by
  refine ex_aload_n F dL_law_1228 rfl rfl ?_
  refine ex_aload_n F dL_law_1229 rfl rfl ?_
  refine ex_iload_n F dL_law_1230 rfl rfl ?_
  refine ex_iconst (v := 1) F dL_law_1231 (by decide) ?_
  refine ex_iadd F dL_law_1232 ?_
  refine ex_sc (j := i + 1) hS9 (nI_add i 1) (by omega) F dL_law_1233 ?_
  refine ex_callVi F (op_keep (l := x_l x) hB) dL_law_1234 cs_L_law_144 ob_7 rfl rfl rfl rfl (Nat.le_of_ble_eq_true rfl) (fun v1234 M1234 h1234 => ?_)
  refine ex_aload_n F dL_law_1237 rfl rfl ?_
  refine ex_aload_n F dL_law_1238 rfl rfl ?_
  refine ex_iload_n F dL_law_1239 rfl rfl ?_
  refine ex_iconst (v := 1) F dL_law_1240 (by decide) ?_
  refine ex_iadd F dL_law_1241 ?_
  refine ex_sc (j := i + 1) hS9 (nI_add i 1) (by omega) F dL_law_1242 ?_
  refine ex_callVi F (h1234) dL_law_1243 cs_L_law_147 ob_8 rfl rfl rfl rfl (Nat.le_of_ble_eq_true rfl) (fun v1243 M1243 h1243 => ?_)
  obtain ⟨rfl, hB2⟩ := h1243
  refine ex_icmp_eq (t := 1449) F dL_law_1246 (by decide) (fun _ => ?_) (fun c => absurd rfl c)
  exact ex_weak2 (nx9 _ hB2) ⟨rfl, rfl, rfl, rfl, trivial⟩
theorem cs_L_law_148 : CSV (xmN YL_law).cls (xmF YL_law) (xmW YL_law) 148 1 YX7_back := ⟨⟨ml_L_148, ini_X7, cd_X7_back, by decide +kernel, by decide⟩, im_X7_back, se_X7_back⟩
theorem cs_L_law_151 : CSV (xmN YL_law).cls (xmF YL_law) (xmW YL_law) 151 1 YX8_back := ⟨⟨ml_L_151, ini_X8, cd_X8_back, by decide +kernel, by decide⟩, im_X8_back, se_X8_back⟩
set_option maxRecDepth 100000 in
theorem lc_31 {x : XC} {g : XG} {b n i T : Nat} {xs : Nat → Int32} {M : Mem} (F : XF x g YL_law) (hS9 : SC x b n xs) (hi : i + 5 < n) (hB : BW M T) (hT : T + 9000 < 2 ^ 31) (nx9 : ∀ M', BW M' (T + 8000) → EX x g (xmL YL_law) M' 1449 [(0, .ref b), (1, .ref (ad g 0)), (2, .ref (ad g 38)), (3, .int (nI i))] []) : EX x g (xmL YL_law) M 1251 [(0, .ref b), (1, .ref (ad g 0)), (2, .ref (ad g 38)), (3, .int (nI i))] [] := by
  refine ex_aload_n F dL_law_1251 rfl rfl ?_
  refine ex_aload_n F dL_law_1252 rfl rfl ?_
  refine ex_iload_n F dL_law_1253 rfl rfl ?_
  refine ex_iconst (v := 1) F dL_law_1254 (by decide) ?_
  refine ex_iadd F dL_law_1255 ?_
  refine ex_sc (j := i + 1) hS9 (nI_add i 1) (by omega) F dL_law_1256 ?_
  refine ex_callVi F (op_back (l := x_l x) hB) dL_law_1257 cs_L_law_148 ob_7 rfl rfl rfl rfl (Nat.le_of_ble_eq_true rfl) (fun v1257 M1257 h1257 => ?_)
  refine ex_aload_n F dL_law_1260 rfl rfl ?_
  refine ex_aload_n F dL_law_1261 rfl rfl ?_
  refine ex_iload_n F dL_law_1262 rfl rfl ?_
  refine ex_iconst (v := 1) F dL_law_1263 (by decide) ?_
  refine ex_iadd F dL_law_1264 ?_
  refine ex_sc (j := i + 1) hS9 (nI_add i 1) (by omega) F dL_law_1265 ?_
  refine ex_callVi F (h1257) dL_law_1266 cs_L_law_151 ob_8 rfl rfl rfl rfl (Nat.le_of_ble_eq_true rfl) (fun v1266 M1266 h1266 => ?_)
  obtain ⟨rfl, hB2⟩ := h1266
  refine ex_icmp_eq (t := 1449) F dL_law_1269 (by decide) (fun _ => ?_) (fun c => absurd rfl c)
  exact ex_weak2 (nx9 _ hB2) ⟨rfl, rfl, rfl, rfl, trivial⟩
theorem cs_L_law_152 : CSV (xmN YL_law).cls (xmF YL_law) (xmW YL_law) 152 3 YX7_sheet := ⟨⟨ml_L_152, ini_X7, cd_X7_sheet, by decide +kernel, by decide⟩, im_X7_sheet, se_X7_sheet⟩
theorem cs_L_law_155 : CSV (xmN YL_law).cls (xmF YL_law) (xmW YL_law) 155 3 YX8_sheet := ⟨⟨ml_L_155, ini_X8, cd_X8_sheet, by decide +kernel, by decide⟩, im_X8_sheet, se_X8_sheet⟩
set_option maxRecDepth 100000 in
theorem lc_32 {x : XC} {g : XG} {b n i T : Nat} {xs : Nat → Int32} {M : Mem} (F : XF x g YL_law) (hS9 : SC x b n xs) (hi : i + 5 < n) (hB : BW M T) (hT : T + 9000 < 2 ^ 31) (nx9 : ∀ M', BW M' (T + 8000) → EX x g (xmL YL_law) M' 1449 [(0, .ref b), (1, .ref (ad g 0)), (2, .ref (ad g 38)), (3, .int (nI i))] []) : EX x g (xmL YL_law) M 1274 [(0, .ref b), (1, .ref (ad g 0)), (2, .ref (ad g 38)), (3, .int (nI i))] [] := by
  refine ex_aload_n F dL_law_1274 rfl rfl ?_
  refine ex_aload_n F dL_law_1275 rfl rfl ?_
  refine ex_iload_n F dL_law_1276 rfl rfl ?_
  refine ex_iconst (v := 1) F dL_law_1277 (by decide) ?_
  refine ex_iadd F dL_law_1278 ?_
  refine ex_sc (j := i + 1) hS9 (nI_add i 1) (by omega) F dL_law_1279 ?_
  refine ex_aload_n F dL_law_1280 rfl rfl ?_
  refine ex_iload_n F dL_law_1281 rfl rfl ?_
  refine ex_iconst (v := 2) F dL_law_1282 (by decide) ?_
  refine ex_iadd F dL_law_1283 ?_
  refine ex_sc (j := i + 2) hS9 (nI_add i 2) (by omega) F dL_law_1284 ?_
  refine ex_aload_n F dL_law_1285 rfl rfl ?_
  refine ex_iload_n F dL_law_1286 rfl rfl ?_
  refine ex_iconst (v := 3) F dL_law_1287 (by decide) ?_
  refine ex_iadd F dL_law_1288 ?_
  refine ex_sc (j := i + 3) hS9 (nI_add i 3) (by omega) F dL_law_1289 ?_
  refine ex_callVi F (op_sheet (l := x_l x) hB) dL_law_1290 cs_L_law_152 ob_7 rfl rfl rfl rfl (Nat.le_of_ble_eq_true rfl) (fun v1290 M1290 h1290 => ?_)
  refine ex_aload_n F dL_law_1293 rfl rfl ?_
  refine ex_aload_n F dL_law_1294 rfl rfl ?_
  refine ex_iload_n F dL_law_1295 rfl rfl ?_
  refine ex_iconst (v := 1) F dL_law_1296 (by decide) ?_
  refine ex_iadd F dL_law_1297 ?_
  refine ex_sc (j := i + 1) hS9 (nI_add i 1) (by omega) F dL_law_1298 ?_
  refine ex_aload_n F dL_law_1299 rfl rfl ?_
  refine ex_iload_n F dL_law_1300 rfl rfl ?_
  refine ex_iconst (v := 2) F dL_law_1301 (by decide) ?_
  refine ex_iadd F dL_law_1302 ?_
  refine ex_sc (j := i + 2) hS9 (nI_add i 2) (by omega) F dL_law_1303 ?_
  refine ex_aload_n F dL_law_1304 rfl rfl ?_
  refine ex_iload_n F dL_law_1305 rfl rfl ?_
  refine ex_iconst (v := 3) F dL_law_1306 (by decide) ?_
  refine ex_iadd F dL_law_1307 ?_
  refine ex_sc (j := i + 3) hS9 (nI_add i 3) (by omega) F dL_law_1308 ?_
  refine ex_callVi F (h1290) dL_law_1309 cs_L_law_155 ob_8 rfl rfl rfl rfl (Nat.le_of_ble_eq_true rfl) (fun v1309 M1309 h1309 => ?_)
  obtain ⟨rfl, hB2⟩ := h1309
  refine ex_icmp_eq (t := 1449) F dL_law_1312 (by decide) (fun _ => ?_) (fun c => absurd rfl c)
  exact ex_weak2 (nx9 _ hB2) ⟨rfl, rfl, rfl, rfl, trivial⟩
theorem cs_L_law_156 : CSV (xmN YL_law).cls (xmF YL_law) (xmW YL_law) 156 3 YX7_lay := ⟨⟨ml_L_156, ini_X7, cd_X7_lay, by decide +kernel, by decide⟩, im_X7_lay, se_X7_lay⟩
theorem cs_L_law_159 : CSV (xmN YL_law).cls (xmF YL_law) (xmW YL_law) 159 3 YX8_lay := ⟨⟨ml_L_159, ini_X8, cd_X8_lay, by decide +kernel, by decide⟩, im_X8_lay, se_X8_lay⟩
set_option maxRecDepth 100000 in
theorem lc_33 {x : XC} {g : XG} {b n i T : Nat} {xs : Nat → Int32} {M : Mem} (F : XF x g YL_law) (hS9 : SC x b n xs) (hi : i + 5 < n) (hB : BW M T) (hT : T + 9000 < 2 ^ 31) (nx9 : ∀ M', BW M' (T + 8000) → EX x g (xmL YL_law) M' 1449 [(0, .ref b), (1, .ref (ad g 0)), (2, .ref (ad g 38)), (3, .int (nI i))] []) : EX x g (xmL YL_law) M 1317 [(0, .ref b), (1, .ref (ad g 0)), (2, .ref (ad g 38)), (3, .int (nI i))] [] := by
  refine ex_aload_n F dL_law_1317 rfl rfl ?_
  refine ex_aload_n F dL_law_1318 rfl rfl ?_
  refine ex_iload_n F dL_law_1319 rfl rfl ?_
  refine ex_iconst (v := 1) F dL_law_1320 (by decide) ?_
  refine ex_iadd F dL_law_1321 ?_
  refine ex_sc (j := i + 1) hS9 (nI_add i 1) (by omega) F dL_law_1322 ?_
  refine ex_aload_n F dL_law_1323 rfl rfl ?_
  refine ex_iload_n F dL_law_1324 rfl rfl ?_
  refine ex_iconst (v := 2) F dL_law_1325 (by decide) ?_
  refine ex_iadd F dL_law_1326 ?_
  refine ex_sc (j := i + 2) hS9 (nI_add i 2) (by omega) F dL_law_1327 ?_
  refine ex_aload_n F dL_law_1328 rfl rfl ?_
  refine ex_iload_n F dL_law_1329 rfl rfl ?_
  refine ex_iconst (v := 3) F dL_law_1330 (by decide) ?_
  refine ex_iadd F dL_law_1331 ?_
  refine ex_sc (j := i + 3) hS9 (nI_add i 3) (by omega) F dL_law_1332 ?_
  refine ex_callVi F (op_lay (l := x_l x) hB) dL_law_1333 cs_L_law_156 ob_7 rfl rfl rfl rfl (Nat.le_of_ble_eq_true rfl) (fun v1333 M1333 h1333 => ?_)
  refine ex_aload_n F dL_law_1336 rfl rfl ?_
  refine ex_aload_n F dL_law_1337 rfl rfl ?_
  refine ex_iload_n F dL_law_1338 rfl rfl ?_
  refine ex_iconst (v := 1) F dL_law_1339 (by decide) ?_
  refine ex_iadd F dL_law_1340 ?_
  refine ex_sc (j := i + 1) hS9 (nI_add i 1) (by omega) F dL_law_1341 ?_
  refine ex_aload_n F dL_law_1342 rfl rfl ?_
  refine ex_iload_n F dL_law_1343 rfl rfl ?_
  refine ex_iconst (v := 2) F dL_law_1344 (by decide) ?_
  refine ex_iadd F dL_law_1345 ?_
  refine ex_sc (j := i + 2) hS9 (nI_add i 2) (by omega) F dL_law_1346 ?_
  refine ex_aload_n F dL_law_1347 rfl rfl ?_
  refine ex_iload_n F dL_law_1348 rfl rfl ?_
  refine ex_iconst (v := 3) F dL_law_1349 (by decide) ?_
  refine ex_iadd F dL_law_1350 ?_
  refine ex_sc (j := i + 3) hS9 (nI_add i 3) (by omega) F dL_law_1351 ?_
  refine ex_callVi F (h1333) dL_law_1352 cs_L_law_159 ob_8 rfl rfl rfl rfl (Nat.le_of_ble_eq_true rfl) (fun v1352 M1352 h1352 => ?_)
  obtain ⟨rfl, hB2⟩ := h1352
  refine ex_icmp_eq (t := 1449) F dL_law_1355 (by decide) (fun _ => ?_) (fun c => absurd rfl c)
  exact ex_weak2 (nx9 _ hB2) ⟨rfl, rfl, rfl, rfl, trivial⟩
theorem cs_L_law_160 : CSV (xmN YL_law).cls (xmF YL_law) (xmW YL_law) 160 4 YX7_read := ⟨⟨ml_L_160, ini_X7, cd_X7_read, by decide +kernel, by decide⟩, im_X7_read, se_X7_read⟩
theorem cs_L_law_163 : CSV (xmN YL_law).cls (xmF YL_law) (xmW YL_law) 163 4 YX8_read := ⟨⟨ml_L_163, ini_X8, cd_X8_read, by decide +kernel, by decide⟩, im_X8_read, se_X8_read⟩
set_option maxRecDepth 100000 in
theorem lc_34 {x : XC} {g : XG} {b n i T : Nat} {xs : Nat → Int32} {M : Mem} (F : XF x g YL_law) (hS9 : SC x b n xs) (hi : i + 5 < n) (hB : BW M T) (hT : T + 9000 < 2 ^ 31) (nx9 : ∀ M', BW M' (T + 8000) → EX x g (xmL YL_law) M' 1449 [(0, .ref b), (1, .ref (ad g 0)), (2, .ref (ad g 38)), (3, .int (nI i))] []) : EX x g (xmL YL_law) M 1360 [(0, .ref b), (1, .ref (ad g 0)), (2, .ref (ad g 38)), (3, .int (nI i))] [] := by
  refine ex_aload_n F dL_law_1360 rfl rfl ?_
  refine ex_aload_n F dL_law_1361 rfl rfl ?_
  refine ex_iload_n F dL_law_1362 rfl rfl ?_
  refine ex_iconst (v := 1) F dL_law_1363 (by decide) ?_
  refine ex_iadd F dL_law_1364 ?_
  refine ex_sc (j := i + 1) hS9 (nI_add i 1) (by omega) F dL_law_1365 ?_
  refine ex_aload_n F dL_law_1366 rfl rfl ?_
  refine ex_iload_n F dL_law_1367 rfl rfl ?_
  refine ex_iconst (v := 2) F dL_law_1368 (by decide) ?_
  refine ex_iadd F dL_law_1369 ?_
  refine ex_sc (j := i + 2) hS9 (nI_add i 2) (by omega) F dL_law_1370 ?_
  refine ex_aload_n F dL_law_1371 rfl rfl ?_
  refine ex_iload_n F dL_law_1372 rfl rfl ?_
  refine ex_iconst (v := 3) F dL_law_1373 (by decide) ?_
  refine ex_iadd F dL_law_1374 ?_
  refine ex_sc (j := i + 3) hS9 (nI_add i 3) (by omega) F dL_law_1375 ?_
  refine ex_aload_n F dL_law_1376 rfl rfl ?_
  refine ex_iload_n F dL_law_1377 rfl rfl ?_
  refine ex_iconst (v := 4) F dL_law_1378 (by decide) ?_
  refine ex_iadd F dL_law_1379 ?_
  refine ex_sc (j := i + 4) hS9 (nI_add i 4) (by omega) F dL_law_1380 ?_
  refine ex_callVi F (op_read (l := x_l x) hB hT) dL_law_1381 cs_L_law_160 ob_7 rfl rfl rfl rfl (Nat.le_of_ble_eq_true rfl) (fun v1381 M1381 h1381 => ?_)
  refine ex_aload_n F dL_law_1384 rfl rfl ?_
  refine ex_aload_n F dL_law_1385 rfl rfl ?_
  refine ex_iload_n F dL_law_1386 rfl rfl ?_
  refine ex_iconst (v := 1) F dL_law_1387 (by decide) ?_
  refine ex_iadd F dL_law_1388 ?_
  refine ex_sc (j := i + 1) hS9 (nI_add i 1) (by omega) F dL_law_1389 ?_
  refine ex_aload_n F dL_law_1390 rfl rfl ?_
  refine ex_iload_n F dL_law_1391 rfl rfl ?_
  refine ex_iconst (v := 2) F dL_law_1392 (by decide) ?_
  refine ex_iadd F dL_law_1393 ?_
  refine ex_sc (j := i + 2) hS9 (nI_add i 2) (by omega) F dL_law_1394 ?_
  refine ex_aload_n F dL_law_1395 rfl rfl ?_
  refine ex_iload_n F dL_law_1396 rfl rfl ?_
  refine ex_iconst (v := 3) F dL_law_1397 (by decide) ?_
  refine ex_iadd F dL_law_1398 ?_
  refine ex_sc (j := i + 3) hS9 (nI_add i 3) (by omega) F dL_law_1399 ?_
  refine ex_aload_n F dL_law_1400 rfl rfl ?_
  refine ex_iload_n F dL_law_1401 rfl rfl ?_
  refine ex_iconst (v := 4) F dL_law_1402 (by decide) ?_
  refine ex_iadd F dL_law_1403 ?_
  refine ex_sc (j := i + 4) hS9 (nI_add i 4) (by omega) F dL_law_1404 ?_
  refine ex_callVi F (h1381) dL_law_1405 cs_L_law_163 ob_8 rfl rfl rfl rfl (Nat.le_of_ble_eq_true rfl) (fun v1405 M1405 h1405 => ?_)
  obtain ⟨rfl, hB2⟩ := h1405
  refine ex_icmp_eq (t := 1449) F dL_law_1408 (by decide) (fun _ => ?_) (fun c => absurd rfl c)
  exact ex_weak2 (nx9 _ hB2) ⟨rfl, rfl, rfl, rfl, trivial⟩
theorem cs_L_law_164 : CSV (xmN YL_law).cls (xmF YL_law) (xmW YL_law) 164 0 YX7_torn := ⟨⟨ml_L_164, ini_X7, cd_X7_torn, by decide +kernel, by decide⟩, im_X7_torn, se_X7_torn⟩
theorem cs_L_law_167 : CSV (xmN YL_law).cls (xmF YL_law) (xmW YL_law) 167 0 YX8_torn := ⟨⟨ml_L_167, ini_X8, cd_X8_torn, by decide +kernel, by decide⟩, im_X8_torn, se_X8_torn⟩
set_option maxRecDepth 100000 in
theorem lc_35 {x : XC} {g : XG} {b n i T : Nat} {xs : Nat → Int32} {M : Mem} (F : XF x g YL_law) (hS9 : SC x b n xs) (hi : i + 5 < n) (hB : BW M T) (hT : T + 9000 < 2 ^ 31) (nx9 : ∀ M', BW M' (T + 8000) → EX x g (xmL YL_law) M' 1449 [(0, .ref b), (1, .ref (ad g 0)), (2, .ref (ad g 38)), (3, .int (nI i))] []) : EX x g (xmL YL_law) M 1413 [(0, .ref b), (1, .ref (ad g 0)), (2, .ref (ad g 38)), (3, .int (nI i))] [] := by
  refine ex_aload_n F dL_law_1413 rfl rfl ?_
  refine ex_callVi F (op_torn (l := x_l x) hB) dL_law_1414 cs_L_law_164 ob_7 rfl rfl rfl rfl (Nat.le_of_ble_eq_true rfl) (fun v1414 M1414 h1414 => ?_)
  refine ex_aload_n F dL_law_1417 rfl rfl ?_
  refine ex_callVi F (h1414) dL_law_1418 cs_L_law_167 ob_8 rfl rfl rfl rfl (Nat.le_of_ble_eq_true rfl) (fun v1418 M1418 h1418 => ?_)
  obtain ⟨rfl, hB2⟩ := h1418
  refine ex_icmp_eq (t := 1449) F dL_law_1421 (by decide) (fun _ => ?_) (fun c => absurd rfl c)
  exact ex_weak2 (nx9 _ hB2) ⟨rfl, rfl, rfl, rfl, trivial⟩
theorem cs_L_law_168 : CSV (xmN YL_law).cls (xmF YL_law) (xmW YL_law) 168 1 YX7_count := ⟨⟨ml_L_168, ini_X7, cd_X7_count, by decide +kernel, by decide⟩, im_X7_count, se_X7_count⟩
theorem cs_L_law_171 : CSV (xmN YL_law).cls (xmF YL_law) (xmW YL_law) 171 1 YX8_count := ⟨⟨ml_L_171, ini_X8, cd_X8_count, by decide +kernel, by decide⟩, im_X8_count, se_X8_count⟩
set_option maxRecDepth 100000 in
theorem lc_36 {x : XC} {g : XG} {b n i T : Nat} {xs : Nat → Int32} {M : Mem} (F : XF x g YL_law) (hS9 : SC x b n xs) (hi : i + 5 < n) (hB : BW M T) (hT : T + 9000 < 2 ^ 31) (nx9 : ∀ M', BW M' (T + 8000) → EX x g (xmL YL_law) M' 1449 [(0, .ref b), (1, .ref (ad g 0)), (2, .ref (ad g 38)), (3, .int (nI i))] []) : EX x g (xmL YL_law) M 1426 [(0, .ref b), (1, .ref (ad g 0)), (2, .ref (ad g 38)), (3, .int (nI i))] [] := by
  refine ex_aload_n F dL_law_1426 rfl rfl ?_
  refine ex_aload_n F dL_law_1427 rfl rfl ?_
  refine ex_iload_n F dL_law_1428 rfl rfl ?_
  refine ex_iconst (v := 1) F dL_law_1429 (by decide) ?_
  refine ex_iadd F dL_law_1430 ?_
  refine ex_sc (j := i + 1) hS9 (nI_add i 1) (by omega) F dL_law_1431 ?_
  refine ex_callVi F (op_count (l := x_l x) hB) dL_law_1432 cs_L_law_168 ob_7 rfl rfl rfl rfl (Nat.le_of_ble_eq_true rfl) (fun v1432 M1432 h1432 => ?_)
  refine ex_aload_n F dL_law_1435 rfl rfl ?_
  refine ex_aload_n F dL_law_1436 rfl rfl ?_
  refine ex_iload_n F dL_law_1437 rfl rfl ?_
  refine ex_iconst (v := 1) F dL_law_1438 (by decide) ?_
  refine ex_iadd F dL_law_1439 ?_
  refine ex_sc (j := i + 1) hS9 (nI_add i 1) (by omega) F dL_law_1440 ?_
  refine ex_callVi F (h1432) dL_law_1441 cs_L_law_171 ob_8 rfl rfl rfl rfl (Nat.le_of_ble_eq_true rfl) (fun v1441 M1441 h1441 => ?_)
  obtain ⟨rfl, hB2⟩ := h1441
  refine ex_icmp_eq (t := 1449) F dL_law_1444 (by decide) (fun _ => ?_) (fun c => absurd rfl c)
  exact ex_weak2 (nx9 _ hB2) ⟨rfl, rfl, rfl, rfl, trivial⟩
theorem sub6_t {n k : Nat} (hn : n < 2147483647) (hk : k < 2147483647) : nI n - 6 < nI k ↔ n < k + 6 := by
  have e6 : (6 : Int32).toInt = 6 := by decide
  have hx : (nI n).toInt = n := nI_toInt (by omega)
  have hk2 : (nI k).toInt = k := nI_toInt (by omega)
  have hs : (nI n - 6).toInt = (n : Int) - 6 := by
    rw [Jvm.Kit.i32_sub (by rw [hx, e6]; omega) (by rw [hx, e6]; omega), hx, e6]
  rw [Int32.lt_iff_toInt_lt, hs, hk2]
  omega
set_option maxRecDepth 100000 in
theorem law_body {x : XC} {g : XG} {b n i T : Nat} {xs : Nat → Int32} {M : Mem} (F : XF x g YL_law) (hS9 : SC x b n xs) (hi : i + 5 < n) (hB : BW M T) (hT : T + 9000 < 2 ^ 31) (nx9 : ∀ M', BW M' (T + 8000) → EX x g (xmL YL_law) M' 1449 [(0, .ref b), (1, .ref (ad g 0)), (2, .ref (ad g 38)), (3, .int (nI i))] []) : EX x g (xmL YL_law) M 27 [(0, .ref b), (1, .ref (ad g 0)), (2, .ref (ad g 38)), (3, .int (nI i))] [] := by
  refine ex_aload_n F dL_law_27 rfl rfl ?_
  refine ex_iload_n F dL_law_28 rfl rfl ?_
  refine ex_sc (j := i) hS9 rfl (by omega) F dL_law_29 ?_
  refine ex_bipush (v := 63) F dL_law_30 (by decide) ?_
  refine ex_iand F dL_law_32 ?_
  generalize xs i &&& 63 = v
  by_cases w0 : v = 0
  · rw [w0]
    refine ex_tswIn (t := 196) F dL_law_33 (by decide) (by decide) rfl (by decide) ?_
    exact ex_weak2 (lc_0 F hS9 hi hB hT nx9) ⟨rfl, rfl, rfl, rfl, trivial⟩
  by_cases w1 : v = 1
  · rw [w1]
    refine ex_tswIn (t := 249) F dL_law_33 (by decide) (by decide) rfl (by decide) ?_
    exact ex_weak2 (lc_1 F hS9 hi hB hT nx9) ⟨rfl, rfl, rfl, rfl, trivial⟩
  by_cases w2 : v = 2
  · rw [w2]
    refine ex_tswIn (t := 272) F dL_law_33 (by decide) (by decide) rfl (by decide) ?_
    exact ex_weak2 (lc_2 F hS9 hi hB hT nx9) ⟨rfl, rfl, rfl, rfl, trivial⟩
  by_cases w3 : v = 3
  · rw [w3]
    refine ex_tswIn (t := 285) F dL_law_33 (by decide) (by decide) rfl (by decide) ?_
    exact ex_weak2 (lc_3 F hS9 hi hB hT nx9) ⟨rfl, rfl, rfl, rfl, trivial⟩
  by_cases w4 : v = 4
  · rw [w4]
    refine ex_tswIn (t := 298) F dL_law_33 (by decide) (by decide) rfl (by decide) ?_
    exact ex_weak2 (lc_4 F hS9 hi hB hT nx9) ⟨rfl, rfl, rfl, rfl, trivial⟩
  by_cases w5 : v = 5
  · rw [w5]
    refine ex_tswIn (t := 321) F dL_law_33 (by decide) (by decide) rfl (by decide) ?_
    exact ex_weak2 (lc_5 F hS9 hi hB hT nx9) ⟨rfl, rfl, rfl, rfl, trivial⟩
  by_cases w6 : v = 6
  · rw [w6]
    refine ex_tswIn (t := 354) F dL_law_33 (by decide) (by decide) rfl (by decide) ?_
    exact ex_weak2 (lc_6 F hS9 hi hB hT nx9) ⟨rfl, rfl, rfl, rfl, trivial⟩
  by_cases w7 : v = 7
  · rw [w7]
    refine ex_tswIn (t := 387) F dL_law_33 (by decide) (by decide) rfl (by decide) ?_
    exact ex_weak2 (lc_7 F hS9 hi hB hT nx9) ⟨rfl, rfl, rfl, rfl, trivial⟩
  by_cases w8 : v = 8
  · rw [w8]
    refine ex_tswIn (t := 420) F dL_law_33 (by decide) (by decide) rfl (by decide) ?_
    exact ex_weak2 (lc_8 F hS9 hi hB hT nx9) ⟨rfl, rfl, rfl, rfl, trivial⟩
  by_cases w9 : v = 9
  · rw [w9]
    refine ex_tswIn (t := 453) F dL_law_33 (by decide) (by decide) rfl (by decide) ?_
    exact ex_weak2 (lc_9 F hS9 hi hB hT nx9) ⟨rfl, rfl, rfl, rfl, trivial⟩
  by_cases w10 : v = 10
  · rw [w10]
    refine ex_tswIn (t := 476) F dL_law_33 (by decide) (by decide) rfl (by decide) ?_
    exact ex_weak2 (lc_10 F hS9 hi hB hT nx9) ⟨rfl, rfl, rfl, rfl, trivial⟩
  by_cases w11 : v = 11
  · rw [w11]
    refine ex_tswIn (t := 489) F dL_law_33 (by decide) (by decide) rfl (by decide) ?_
    exact ex_weak2 (lc_11 F hS9 hi hB hT nx9) ⟨rfl, rfl, rfl, rfl, trivial⟩
  by_cases w12 : v = 12
  · rw [w12]
    refine ex_tswIn (t := 512) F dL_law_33 (by decide) (by decide) rfl (by decide) ?_
    exact ex_weak2 (lc_12 F hS9 hi hB hT nx9) ⟨rfl, rfl, rfl, rfl, trivial⟩
  by_cases w13 : v = 13
  · rw [w13]
    refine ex_tswIn (t := 535) F dL_law_33 (by decide) (by decide) rfl (by decide) ?_
    exact ex_weak2 (lc_13 F hS9 hi hB hT nx9) ⟨rfl, rfl, rfl, rfl, trivial⟩
  by_cases w14 : v = 14
  · rw [w14]
    refine ex_tswIn (t := 598) F dL_law_33 (by decide) (by decide) rfl (by decide) ?_
    exact ex_weak2 (lc_14 F hS9 hi hB hT nx9) ⟨rfl, rfl, rfl, rfl, trivial⟩
  by_cases w15 : v = 15
  · rw [w15]
    refine ex_tswIn (t := 641) F dL_law_33 (by decide) (by decide) rfl (by decide) ?_
    exact ex_weak2 (lc_15 F hS9 hi hB hT nx9) ⟨rfl, rfl, rfl, rfl, trivial⟩
  by_cases w16 : v = 16
  · rw [w16]
    refine ex_tswIn (t := 674) F dL_law_33 (by decide) (by decide) rfl (by decide) ?_
    exact ex_weak2 (lc_16 F hS9 hi hB hT nx9) ⟨rfl, rfl, rfl, rfl, trivial⟩
  by_cases w17 : v = 17
  · rw [w17]
    refine ex_tswIn (t := 697) F dL_law_33 (by decide) (by decide) rfl (by decide) ?_
    exact ex_weak2 (lc_17 F hS9 hi hB hT nx9) ⟨rfl, rfl, rfl, rfl, trivial⟩
  by_cases w18 : v = 18
  · rw [w18]
    refine ex_tswIn (t := 730) F dL_law_33 (by decide) (by decide) rfl (by decide) ?_
    exact ex_weak2 (lc_18 F hS9 hi hB hT nx9) ⟨rfl, rfl, rfl, rfl, trivial⟩
  by_cases w19 : v = 19
  · rw [w19]
    refine ex_tswIn (t := 743) F dL_law_33 (by decide) (by decide) rfl (by decide) ?_
    exact ex_weak2 (lc_19 F hS9 hi hB hT nx9) ⟨rfl, rfl, rfl, rfl, trivial⟩
  by_cases w20 : v = 20
  · rw [w20]
    refine ex_tswIn (t := 766) F dL_law_33 (by decide) (by decide) rfl (by decide) ?_
    exact ex_weak2 (lc_20 F hS9 hi hB hT nx9) ⟨rfl, rfl, rfl, rfl, trivial⟩
  by_cases w21 : v = 21
  · rw [w21]
    refine ex_tswIn (t := 799) F dL_law_33 (by decide) (by decide) rfl (by decide) ?_
    exact ex_weak2 (lc_21 F hS9 hi hB hT nx9) ⟨rfl, rfl, rfl, rfl, trivial⟩
  by_cases w22 : v = 22
  · rw [w22]
    refine ex_tswIn (t := 822) F dL_law_33 (by decide) (by decide) rfl (by decide) ?_
    exact ex_weak2 (lc_22 F hS9 hi hB hT nx9) ⟨rfl, rfl, rfl, rfl, trivial⟩
  by_cases w23 : v = 23
  · rw [w23]
    refine ex_tswIn (t := 876) F dL_law_33 (by decide) (by decide) rfl (by decide) ?_
    exact ex_weak2 (lc_23 F hS9 hi hB hT nx9) ⟨rfl, rfl, rfl, rfl, trivial⟩
  by_cases w24 : v = 24
  · rw [w24]
    refine ex_tswIn (t := 929) F dL_law_33 (by decide) (by decide) rfl (by decide) ?_
    exact ex_weak2 (lc_24 F hS9 hi hB hT nx9) ⟨rfl, rfl, rfl, rfl, trivial⟩
  by_cases w25 : v = 25
  · rw [w25]
    refine ex_tswIn (t := 962) F dL_law_33 (by decide) (by decide) rfl (by decide) ?_
    exact ex_weak2 (lc_25 F hS9 hi hB hT nx9) ⟨rfl, rfl, rfl, rfl, trivial⟩
  by_cases w26 : v = 26
  · rw [w26]
    refine ex_tswIn (t := 1005) F dL_law_33 (by decide) (by decide) rfl (by decide) ?_
    exact ex_weak2 (lc_26 F hS9 hi hB hT nx9) ⟨rfl, rfl, rfl, rfl, trivial⟩
  by_cases w27 : v = 27
  · rw [w27]
    refine ex_tswIn (t := 1038) F dL_law_33 (by decide) (by decide) rfl (by decide) ?_
    exact ex_weak2 (lc_27 F hS9 hi hB hT nx9) ⟨rfl, rfl, rfl, rfl, trivial⟩
  by_cases w28 : v = 28
  · rw [w28]
    refine ex_tswIn (t := 1101) F dL_law_33 (by decide) (by decide) rfl (by decide) ?_
    exact ex_weak2 (lc_28 F hS9 hi hB hT nx9) ⟨rfl, rfl, rfl, rfl, trivial⟩
  by_cases w29 : v = 29
  · rw [w29]
    refine ex_tswIn (t := 1164) F dL_law_33 (by decide) (by decide) rfl (by decide) ?_
    exact ex_weak2 (lc_29 F hS9 hi hB hT nx9) ⟨rfl, rfl, rfl, rfl, trivial⟩
  by_cases w30 : v = 30
  · rw [w30]
    refine ex_tswIn (t := 1228) F dL_law_33 (by decide) (by decide) rfl (by decide) ?_
    exact ex_weak2 (lc_30 F hS9 hi hB hT nx9) ⟨rfl, rfl, rfl, rfl, trivial⟩
  by_cases w31 : v = 31
  · rw [w31]
    refine ex_tswIn (t := 1251) F dL_law_33 (by decide) (by decide) rfl (by decide) ?_
    exact ex_weak2 (lc_31 F hS9 hi hB hT nx9) ⟨rfl, rfl, rfl, rfl, trivial⟩
  by_cases w32 : v = 32
  · rw [w32]
    refine ex_tswIn (t := 1274) F dL_law_33 (by decide) (by decide) rfl (by decide) ?_
    exact ex_weak2 (lc_32 F hS9 hi hB hT nx9) ⟨rfl, rfl, rfl, rfl, trivial⟩
  by_cases w33 : v = 33
  · rw [w33]
    refine ex_tswIn (t := 1317) F dL_law_33 (by decide) (by decide) rfl (by decide) ?_
    exact ex_weak2 (lc_33 F hS9 hi hB hT nx9) ⟨rfl, rfl, rfl, rfl, trivial⟩
  by_cases w34 : v = 34
  · rw [w34]
    refine ex_tswIn (t := 1360) F dL_law_33 (by decide) (by decide) rfl (by decide) ?_
    exact ex_weak2 (lc_34 F hS9 hi hB hT nx9) ⟨rfl, rfl, rfl, rfl, trivial⟩
  by_cases w35 : v = 35
  · rw [w35]
    refine ex_tswIn (t := 1413) F dL_law_33 (by decide) (by decide) rfl (by decide) ?_
    exact ex_weak2 (lc_35 F hS9 hi hB hT nx9) ⟨rfl, rfl, rfl, rfl, trivial⟩
  by_cases w36 : v = 36
  · rw [w36]
    refine ex_tswIn (t := 1426) F dL_law_33 (by decide) (by decide) rfl (by decide) ?_
    exact ex_weak2 (lc_36 F hS9 hi hB hT nx9) ⟨rfl, rfl, rfl, rfl, trivial⟩
  refine ex_tswOut (t := 1449) F dL_law_33 (tsw_out 36 (by decide) (fun k hk => match k, hk with | 0, _ => w0 | 1, _ => w1 | 2, _ => w2 | 3, _ => w3 | 4, _ => w4 | 5, _ => w5 | 6, _ => w6 | 7, _ => w7 | 8, _ => w8 | 9, _ => w9 | 10, _ => w10 | 11, _ => w11 | 12, _ => w12 | 13, _ => w13 | 14, _ => w14 | 15, _ => w15 | 16, _ => w16 | 17, _ => w17 | 18, _ => w18 | 19, _ => w19 | 20, _ => w20 | 21, _ => w21 | 22, _ => w22 | 23, _ => w23 | 24, _ => w24 | 25, _ => w25 | 26, _ => w26 | 27, _ => w27 | 28, _ => w28 | 29, _ => w29 | 30, _ => w30 | 31, _ => w31 | 32, _ => w32 | 33, _ => w33 | 34, _ => w34 | 35, _ => w35 | 36, _ => w36 | n + 37, h => absurd h (by omega))) (by decide) ?_
  exact ex_weak2 (nx9 _ (BW_same hB)) ⟨rfl, rfl, rfl, rfl, trivial⟩
theorem law_loop {x : XC} {g : XG} {b n : Nat} {xs : Nat → Int32} (F : XF x g YL_law) (hS9 : SC x b n xs) (hn : n ≤ 3072) (fin9 : ∀ M T, BW M T → EX x g (xmL YL_law) M 1455 [] []) {M0 : Mem} (hB0 : BW M0 0) : EX x g (xmL YL_law) M0 18 [(0, .ref b), (1, .ref (ad g 0)), (2, .ref (ad g 38)), (3, .int (nI 0))] [] := by
  have key : ∀ (m k : Nat) (M : Mem), n < 6 * (k + m) + 6 → k + m ≤ 600 → BW M (8000 * k) → EX x g (xmL YL_law) M 18 [(0, .ref b), (1, .ref (ad g 0)), (2, .ref (ad g 38)), (3, .int (nI (6 * k)))] [] := by
    intro m
    induction m with
    | zero =>
      intro k M h1 h2 hB
      refine ex_iload_n F dL_law_18 rfl rfl ?_
      refine ex_aload_n F dL_law_19 rfl rfl ?_
      refine ex_scl hS9 F dL_law_20 ?_
      refine ex_bipush (v := 6) F dL_law_21 (by decide) ?_
      refine ex_isub F dL_law_23 ?_
      refine ex_icmp_gt (t := 1455) F dL_law_24 (by decide) (fun _ => ?_) (fun c => absurd ((sub6_t (by omega) (by omega)).mpr (by omega)) c)
      exact ex_weak2 (fin9 M _ hB) trivial
    | succ m ih =>
      intro k M h1 h2 hB
      refine ex_iload_n F dL_law_18 rfl rfl ?_
      refine ex_aload_n F dL_law_19 rfl rfl ?_
      refine ex_scl hS9 F dL_law_20 ?_
      refine ex_bipush (v := 6) F dL_law_21 (by decide) ?_
      refine ex_isub F dL_law_23 ?_
      refine ex_icmp_gt (t := 1455) F dL_law_24 (by decide) (fun _ => ?_) (fun c => ?_)
      · exact ex_weak2 (fin9 M _ hB) trivial
      · have hi : 6 * k + 5 < n := by
          refine Nat.not_le.mp (fun q => c ((sub6_t (by omega) (by omega)).mpr (by omega)))
        refine ex_weak2 (law_body (i := 6 * k) (T := 8000 * k) F hS9 hi hB (by omega) (fun M' hB2 => ?_)) ⟨rfl, rfl, rfl, rfl, trivial⟩
        refine ex_iinc (w := nI (6 * (k + 1))) F dL_law_1449 rfl (nI_add (6 * k) 6) (by decide) ?_
        refine ex_goto (t := 18) F dL_law_1452 (by decide) ?_
        exact ex_weak2 (ih (k + 1) M' (by omega) (by omega) (by rw [show 8000 * (k + 1) = 8000 * k + 8000 by omega]; exact hB2)) ⟨rfl, rfl, rfl, rfl, trivial⟩
  exact key 512 0 M0 (by omega) (by decide) hB0
