/-! the law's cases -/
section LWE
variable {b len : Nat} {xs : Nat → Int32} {d bc bs : Nat} {h z : PH} {i : Int}
set_option maxRecDepth 100000 in
set_option maxHeartbeats 4000000 in
theorem lc_feed (hl : len ≤ 3072) (i0 : 0 ≤ i) (i1 : i + 6 ≤ len) (hd : 17 ≤ d) (hbc : 700 ≤ bc) (hbs : 1400 ≤ bs) (I : LI_ h z) (k : ∀ h1 z1 : PH, LI_ h1 z1 → SE_ (EL_ b len xs) ML_law d (bc - 700) (bs - 1400) QL_ 2422 [(2, 1399), (2, 0), (2, 196), (2, 224), (0, i), (9, 0), (9, 0)] [] nN h1) : SE_ (EL_ b len xs) ML_law d bc bs QL_ 208 [(2, 1399), (2, 0), (2, 196), (2, 224), (0, i), (9, 0), (9, 0)] [] nN h := by
  obtain ⟨C, B, M⟩ := I
  refine s_aload_n dL_law_208 rfl ?_
  refine s_aload_n dL_law_209 rfl ?_
  refine s_iload dL_law_210 rfl ?_
  refine s_iconst dL_law_212 ?_
  refine s_iadd dL_law_213 ?_
  refine s_sld dL_law_214 (by omega) (by omega) hl ?_
  refine s_aload_n dL_law_215 rfl ?_
  refine s_iload dL_law_216 rfl ?_
  refine s_iconst dL_law_218 ?_
  refine s_iadd dL_law_219 ?_
  refine s_sld dL_law_220 (by omega) (by omega) hl ?_
  refine s_aload_n dL_law_221 rfl ?_
  refine s_iload dL_law_222 rfl ?_
  refine s_iconst dL_law_224 ?_
  refine s_iadd dL_law_225 ?_
  refine s_sld dL_law_226 (by omega) (by omega) hl ?_
  refine s_aload_n dL_law_227 rfl ?_
  refine s_iload dL_law_228 rfl ?_
  refine s_iconst dL_law_230 ?_
  refine s_iadd dL_law_231 ?_
  refine s_sld dL_law_232 (by omega) (by omega) hl ?_
  refine s_aload_n dL_law_233 rfl ?_
  refine s_iload dL_law_234 rfl ?_
  refine s_iconst dL_law_236 ?_
  refine s_iadd dL_law_237 ?_
  refine s_sld dL_law_238 (by omega) (by omega) hl ?_
  refine f_callV (d' := d - 1) (bc' := 700) (bs' := 1400) (as := [_, _, _, _, _]) hQ_ dL_law_239 vf_L_119 (dd_ (by omega) (by decide)) ⟨hbc, hbs⟩ rfl rfl (Nat.le_of_ble_eq_true rfl) kl_6 rfl io_0 ?_
  refine v_feed (a := xz_ xs (i + 1)) (b := xz_ xs (i + 2)) (c := xz_ xs (i + 3)) (e := xz_ xs (i + 4)) (g := xz_ xs (i + 5)) (by omega) (by omega) (by omega) C B (xz_in xs _) (xz_in xs _) (xz_in xs _) (xz_in xs _) (xz_in xs _) (fun h1 C1 B1 f1 => ?_)
  have M1 := mr_hi M C1.1 f1
  refine s_aload_n dL_law_242 rfl ?_
  refine s_aload_n dL_law_243 rfl ?_
  refine s_iload dL_law_244 rfl ?_
  refine s_iconst dL_law_246 ?_
  refine s_iadd dL_law_247 ?_
  refine s_sld dL_law_248 (by omega) (by omega) hl ?_
  refine s_aload_n dL_law_249 rfl ?_
  refine s_iload dL_law_250 rfl ?_
  refine s_iconst dL_law_252 ?_
  refine s_iadd dL_law_253 ?_
  refine s_sld dL_law_254 (by omega) (by omega) hl ?_
  refine s_aload_n dL_law_255 rfl ?_
  refine s_iload dL_law_256 rfl ?_
  refine s_iconst dL_law_258 ?_
  refine s_iadd dL_law_259 ?_
  refine s_sld dL_law_260 (by omega) (by omega) hl ?_
  refine s_aload_n dL_law_261 rfl ?_
  refine s_iload dL_law_262 rfl ?_
  refine s_iconst dL_law_264 ?_
  refine s_iadd dL_law_265 ?_
  refine s_sld dL_law_266 (by omega) (by omega) hl ?_
  refine s_aload_n dL_law_267 rfl ?_
  refine s_iload dL_law_268 rfl ?_
  refine s_iconst dL_law_270 ?_
  refine s_iadd dL_law_271 ?_
  refine s_sld dL_law_272 (by omega) (by omega) hl ?_
  refine f_callV (d' := d - 1) (bc' := 0) (bs' := 0) (as := [_, _, _, _, _]) hQ_ dL_law_273 vf_L_123 (dd_ (by omega) (by decide)) ⟨Nat.zero_le _, Nat.zero_le _⟩ rfl rfl (Nat.le_of_ble_eq_true rfl) kl_7 rfl io_196 ?_
  refine r_feed (a := xz_ xs (i + 1)) (b := xz_ xs (i + 2)) (c := xz_ xs (i + 3)) (e := xz_ xs (i + 4)) (g := xz_ xs (i + 5)) (by omega) M1 (xz_in xs _) (xz_in xs _) (xz_in xs _) (xz_in xs _) (xz_in xs _) (fun h2 M2 f2 t2 => ?_)
  refine s_icmp_eqS (tgt := 2422) dL_law_276 (by decide) ?_
  exact k _ _ ⟨cr_lo C1 M2.1 (fun x y a => f2 x y (Or.inl a)), b5_lo B1 (fun y => f2 195 y (Or.inl (by omega))), M2⟩
set_option maxRecDepth 100000 in
set_option maxHeartbeats 4000000 in
theorem lc_end (hl : len ≤ 3072) (i0 : 0 ≤ i) (i1 : i + 6 ≤ len) (hd : 17 ≤ d) (hbc : 700 ≤ bc) (hbs : 1400 ≤ bs) (I : LI_ h z) (k : ∀ h1 z1 : PH, LI_ h1 z1 → SE_ (EL_ b len xs) ML_law d (bc - 700) (bs - 1400) QL_ 2422 [(2, 1399), (2, 0), (2, 196), (2, 224), (0, i), (9, 0), (9, 0)] [] nN h1) : SE_ (EL_ b len xs) ML_law d bc bs QL_ 281 [(2, 1399), (2, 0), (2, 196), (2, 224), (0, i), (9, 0), (9, 0)] [] nN h := by
  obtain ⟨C, B, M⟩ := I
  refine s_aload_n dL_law_281 rfl ?_
  refine s_aload_n dL_law_282 rfl ?_
  refine s_iload dL_law_283 rfl ?_
  refine s_iconst dL_law_285 ?_
  refine s_iadd dL_law_286 ?_
  refine s_sld dL_law_287 (by omega) (by omega) hl ?_
  refine f_callV (d' := d - 1) (bc' := 700) (bs' := 1400) (as := [_]) hQ_ dL_law_288 vf_L_124 (dd_ (by omega) (by decide)) ⟨hbc, hbs⟩ rfl rfl (Nat.le_of_ble_eq_true rfl) kl_6 rfl io_0 ?_
  refine v_end (n := xz_ xs (i + 1)) (by omega) (by omega) (by omega) C B (xz_in xs _) (fun h1 C1 B1 f1 => ?_)
  have M1 := mr_hi M C1.1 f1
  refine s_aload_n dL_law_291 rfl ?_
  refine s_aload_n dL_law_292 rfl ?_
  refine s_iload dL_law_293 rfl ?_
  refine s_iconst dL_law_295 ?_
  refine s_iadd dL_law_296 ?_
  refine s_sld dL_law_297 (by omega) (by omega) hl ?_
  refine f_callV (d' := d - 1) (bc' := 0) (bs' := 0) (as := [_]) hQ_ dL_law_298 vf_L_127 (dd_ (by omega) (by decide)) ⟨Nat.zero_le _, Nat.zero_le _⟩ rfl rfl (Nat.le_of_ble_eq_true rfl) kl_7 rfl io_196 ?_
  refine r_end (n := xz_ xs (i + 1)) (by omega) M1 (xz_in xs _) (fun h2 M2 f2 t2 => ?_)
  refine s_icmp_eqS (tgt := 2422) dL_law_301 (by decide) ?_
  exact k _ _ ⟨cr_lo C1 M2.1 (fun x y a => f2 x y (Or.inl a)), b5_lo B1 (fun y => f2 195 y (Or.inl (by omega))), M2⟩
set_option maxRecDepth 100000 in
set_option maxHeartbeats 4000000 in
theorem lc_read (hl : len ≤ 3072) (i0 : 0 ≤ i) (i1 : i + 6 ≤ len) (hd : 17 ≤ d) (hbc : 700 ≤ bc) (hbs : 1400 ≤ bs) (I : LI_ h z) (k : ∀ h1 z1 : PH, LI_ h1 z1 → SE_ (EL_ b len xs) ML_law d (bc - 700) (bs - 1400) QL_ 2422 [(2, 1399), (2, 0), (2, 196), (2, 224), (0, i), (9, 0), (9, 0)] [] nN h1) : SE_ (EL_ b len xs) ML_law d bc bs QL_ 306 [(2, 1399), (2, 0), (2, 196), (2, 224), (0, i), (9, 0), (9, 0)] [] nN h := by
  obtain ⟨C, B, M⟩ := I
  refine s_aload_n dL_law_306 rfl ?_
  refine s_aload_n dL_law_307 rfl ?_
  refine f_callSX (d' := d - 1) (bc' := 700) (bs' := 1400) (as := [_, _]) hQ_ dL_law_308 sx_read (dd_ (by omega) (by decide)) ⟨hbc, hbs⟩ rfl rfl (Nat.le_of_ble_eq_true rfl) ?_
  refine w_read (by omega) (by omega) (by omega) C B (fun h1 C1 B1 f1 e1 => ?_)
  have M1 := mr_hi M C1.1 f1
  refine s_istore dL_law_311 (by decide) rfl (L' := [(2, _), (2, _), (2, _), (2, _), (0, _), (0, _), (9, _)]) rfl ?_
  refine s_aload_n dL_law_313 rfl ?_
  refine f_callV (d' := d - 1) (bc' := 0) (bs' := 0) (as := []) hQ_ dL_law_314 vf_L_133 (dd_ (by omega) (by decide)) ⟨Nat.zero_le _, Nat.zero_le _⟩ rfl rfl (Nat.le_of_ble_eq_true rfl) kl_7 rfl io_196 ?_
  refine r_read (by omega) M1 (fun h2 M2 f2 t2 => ?_)
  refine s_istore dL_law_317 (by decide) rfl (L' := [(2, _), (2, _), (2, _), (2, _), (0, _), (0, _), (0, _)]) rfl ?_
  refine s_aload_n dL_law_319 rfl ?_
  refine f_callV (d' := d - 1) (bc' := 0) (bs' := 0) (as := []) hQ_ dL_law_320 vf_L_134 (dd_ (by omega) (by decide)) ⟨Nat.zero_le _, Nat.zero_le _⟩ rfl rfl (Nat.le_of_ble_eq_true rfl) kl_7 rfl io_196 ?_
  refine c_X9_thrown t2 ?_
  refine s_iload dL_law_323 rfl ?_
  refine s_icmp_eqS (tgt := 330) dL_law_325 (by decide) ?_
  refine s_iload dL_law_330 rfl ?_
  refine s_if_ne (tgt := 347) dL_law_332 (by decide) (k3_in ok_read) (fun ck => ?_) (fun ck => ?_)
  · refine s_goto (tgt := 2422) dL_law_347 (by decide) ?_
    refine s_fg (L' := [(2, 1399), (2, 0), (2, 196), (2, 224), (0, i), (9, 0), (9, 0)]) ⟨Or.inr rfl, Or.inr rfl, Or.inr rfl, Or.inr rfl, Or.inr rfl, Or.inl rfl, Or.inl rfl, trivial⟩ ?_
    exact k _ _ ⟨cr_lo C1 M2.1 (fun x y a => f2 x y (Or.inl a)), b5_lo B1 (fun y => f2 195 y (Or.inl (by omega))), M2⟩
  · have e2 : h2 224 0 = i3_ (op_read z).2.1 := (f2 224 0 (Or.inr (by omega))).trans (e1 ck)
    refine s_aload_n dL_law_335 rfl ?_
    refine s_iconst dL_law_336 ?_
    refine s_laload dL_law_337 io_224 (by decide) (by decide) ?_
    rw [e2]
    refine s_iload dL_law_338 rfl ?_
    refine s_i2lW dL_law_340 ?_
    refine s_lcmp_eq (tgt := 347) dL_law_341 dL_law_342 (by decide) (inI_L (i3_in _)) (inI_L (i3_in _)) (fun _ => ?_) (fun q => absurd rfl q)
    refine s_goto (tgt := 2422) dL_law_347 (by decide) ?_
    refine s_fg (L' := [(2, 1399), (2, 0), (2, 196), (2, 224), (0, i), (9, 0), (9, 0)]) ⟨Or.inr rfl, Or.inr rfl, Or.inr rfl, Or.inr rfl, Or.inr rfl, Or.inl rfl, Or.inl rfl, trivial⟩ ?_
    exact k _ _ ⟨cr_lo C1 M2.1 (fun x y a => f2 x y (Or.inl a)), b5_lo B1 (fun y => f2 195 y (Or.inl (by omega))), M2⟩
set_option maxRecDepth 100000 in
set_option maxHeartbeats 4000000 in
theorem lc_fault (hl : len ≤ 3072) (i0 : 0 ≤ i) (i1 : i + 6 ≤ len) (hd : 17 ≤ d) (hbc : 700 ≤ bc) (hbs : 1400 ≤ bs) (I : LI_ h z) (k : ∀ h1 z1 : PH, LI_ h1 z1 → SE_ (EL_ b len xs) ML_law d (bc - 700) (bs - 1400) QL_ 2422 [(2, 1399), (2, 0), (2, 196), (2, 224), (0, i), (9, 0), (9, 0)] [] nN h1) : SE_ (EL_ b len xs) ML_law d bc bs QL_ 350 [(2, 1399), (2, 0), (2, 196), (2, 224), (0, i), (9, 0), (9, 0)] [] nN h := by
  obtain ⟨C, B, M⟩ := I
  refine s_aload_n dL_law_350 rfl ?_
  refine f_callV (d' := d - 1) (bc' := 700) (bs' := 1400) (as := []) hQ_ dL_law_351 vf_L_137 (dd_ (by omega) (by decide)) ⟨hbc, hbs⟩ rfl rfl (Nat.le_of_ble_eq_true rfl) kl_6 rfl io_0 ?_
  refine v_fault (by omega) (by omega) (by omega) C B (fun h1 C1 B1 f1 => ?_)
  have M1 := mr_hi M C1.1 f1
  refine s_aload_n dL_law_354 rfl ?_
  refine f_callV (d' := d - 1) (bc' := 0) (bs' := 0) (as := []) hQ_ dL_law_355 vf_L_140 (dd_ (by omega) (by decide)) ⟨Nat.zero_le _, Nat.zero_le _⟩ rfl rfl (Nat.le_of_ble_eq_true rfl) kl_7 rfl io_196 ?_
  refine r_fault (by omega) M1 (fun h2 M2 f2 t2 => ?_)
  refine s_icmp_eqS (tgt := 2422) dL_law_358 (by decide) ?_
  exact k _ _ ⟨cr_lo C1 M2.1 (fun x y a => f2 x y (Or.inl a)), b5_lo B1 (fun y => f2 195 y (Or.inl (by omega))), M2⟩
set_option maxRecDepth 100000 in
set_option maxHeartbeats 4000000 in
theorem lc_name (hl : len ≤ 3072) (i0 : 0 ≤ i) (i1 : i + 6 ≤ len) (hd : 17 ≤ d) (hbc : 700 ≤ bc) (hbs : 1400 ≤ bs) (I : LI_ h z) (k : ∀ h1 z1 : PH, LI_ h1 z1 → SE_ (EL_ b len xs) ML_law d (bc - 700) (bs - 1400) QL_ 2422 [(2, 1399), (2, 0), (2, 196), (2, 224), (0, i), (9, 0), (9, 0)] [] nN h1) : SE_ (EL_ b len xs) ML_law d bc bs QL_ 363 [(2, 1399), (2, 0), (2, 196), (2, 224), (0, i), (9, 0), (9, 0)] [] nN h := by
  obtain ⟨C, B, M⟩ := I
  refine s_aload_n dL_law_363 rfl ?_
  refine s_aload_n dL_law_364 rfl ?_
  refine s_iload dL_law_365 rfl ?_
  refine s_iconst dL_law_367 ?_
  refine s_iadd dL_law_368 ?_
  refine s_sld dL_law_369 (by omega) (by omega) hl ?_
  refine s_if_eq (tgt := 377) dL_law_370 (by decide) (xz_in xs _) (fun cb => ?_) (fun cb => ?_)
  · refine s_iconst dL_law_377 ?_
    refine s_aload_n dL_law_378 rfl ?_
    refine s_iload dL_law_379 rfl ?_
    refine s_iconst dL_law_381 ?_
    refine s_iadd dL_law_382 ?_
    refine s_sld dL_law_383 (by omega) (by omega) hl ?_
    refine s_aload_n dL_law_384 rfl ?_
    refine s_iload dL_law_385 rfl ?_
    refine s_iconst dL_law_387 ?_
    refine s_iadd dL_law_388 ?_
    refine s_sld dL_law_389 (by omega) (by omega) hl ?_
    refine s_aload_n dL_law_390 rfl ?_
    refine f_callSX (d' := d - 1) (bc' := 700) (bs' := 1400) (as := [_, _, _, _, _]) hQ_ dL_law_391 sx_name (dd_ (by omega) (by decide)) ⟨hbc, hbs⟩ rfl rfl (Nat.le_of_ble_eq_true rfl) ?_
    refine w_name (q := 0) (i := xz_ xs (i + 2)) (t := xz_ xs (i + 3)) (by omega) (by omega) (by omega) C B (Or.inl rfl) (xz_in xs _) (xz_in xs _) (fun h1 C1 B1 f1 e1 => ?_)
    have M1 := mr_hi M C1.1 f1
    refine s_istore dL_law_394 (by decide) rfl (L' := [(2, _), (2, _), (2, _), (2, _), (0, _), (0, _), (9, _)]) rfl ?_
    refine s_aload_n dL_law_396 rfl ?_
    refine s_aload_n dL_law_397 rfl ?_
    refine s_iload dL_law_398 rfl ?_
    refine s_iconst dL_law_400 ?_
    refine s_iadd dL_law_401 ?_
    refine s_sld dL_law_402 (by omega) (by omega) hl ?_
    refine s_if_eq (tgt := 410) dL_law_403 (by decide) (xz_in xs _) (fun _ => ?_) (fun q => absurd cb q)
    refine s_iconst dL_law_410 ?_
    refine s_aload_n dL_law_411 rfl ?_
    refine s_iload dL_law_412 rfl ?_
    refine s_iconst dL_law_414 ?_
    refine s_iadd dL_law_415 ?_
    refine s_sld dL_law_416 (by omega) (by omega) hl ?_
    refine s_aload_n dL_law_417 rfl ?_
    refine s_iload dL_law_418 rfl ?_
    refine s_iconst dL_law_420 ?_
    refine s_iadd dL_law_421 ?_
    refine s_sld dL_law_422 (by omega) (by omega) hl ?_
    refine f_callV (d' := d - 1) (bc' := 0) (bs' := 0) (as := [_, _, _]) hQ_ dL_law_423 vf_L_144 (dd_ (by omega) (by decide)) ⟨Nat.zero_le _, Nat.zero_le _⟩ rfl rfl (Nat.le_of_ble_eq_true rfl) kl_7 rfl io_196 ?_
    refine r_name (q := 0) (i := xz_ xs (i + 2)) (t := xz_ xs (i + 3)) (by omega) M1 (Or.inl rfl) (xz_in xs _) (xz_in xs _) (fun h2 M2 f2 t2 => ?_)
    refine s_istore dL_law_426 (by decide) rfl (L' := [(2, _), (2, _), (2, _), (2, _), (0, _), (0, _), (0, _)]) rfl ?_
    refine s_aload_n dL_law_428 rfl ?_
    refine f_callV (d' := d - 1) (bc' := 0) (bs' := 0) (as := []) hQ_ dL_law_429 vf_L_134 (dd_ (by omega) (by decide)) ⟨Nat.zero_le _, Nat.zero_le _⟩ rfl rfl (Nat.le_of_ble_eq_true rfl) kl_7 rfl io_196 ?_
    refine c_X9_thrown t2 ?_
    refine s_iload dL_law_432 rfl ?_
    refine s_icmp_eqS (tgt := 439) dL_law_434 (by decide) ?_
    refine s_iload dL_law_439 rfl ?_
    refine s_if_ne (tgt := 456) dL_law_441 (by decide) (k3_in ok_name) (fun ck => ?_) (fun ck => ?_)
    · refine s_goto (tgt := 2422) dL_law_456 (by decide) ?_
      refine s_fg (L' := [(2, 1399), (2, 0), (2, 196), (2, 224), (0, i), (9, 0), (9, 0)]) ⟨Or.inr rfl, Or.inr rfl, Or.inr rfl, Or.inr rfl, Or.inr rfl, Or.inl rfl, Or.inl rfl, trivial⟩ ?_
      exact k _ _ ⟨cr_lo C1 M2.1 (fun x y a => f2 x y (Or.inl a)), b5_lo B1 (fun y => f2 195 y (Or.inl (by omega))), M2⟩
    · have e2 : h2 224 0 = i3_ (op_name z (0) (xz_ xs (i + 2)) (xz_ xs (i + 3))).2.1 := (f2 224 0 (Or.inr (by omega))).trans (e1 ck)
      refine s_aload_n dL_law_444 rfl ?_
      refine s_iconst dL_law_445 ?_
      refine s_laload dL_law_446 io_224 (by decide) (by decide) ?_
      rw [e2]
      refine s_iload dL_law_447 rfl ?_
      refine s_i2lW dL_law_449 ?_
      refine s_lcmp_eq (tgt := 456) dL_law_450 dL_law_451 (by decide) (inI_L (i3_in _)) (inI_L (i3_in _)) (fun _ => ?_) (fun q => absurd rfl q)
      refine s_goto (tgt := 2422) dL_law_456 (by decide) ?_
      refine s_fg (L' := [(2, 1399), (2, 0), (2, 196), (2, 224), (0, i), (9, 0), (9, 0)]) ⟨Or.inr rfl, Or.inr rfl, Or.inr rfl, Or.inr rfl, Or.inr rfl, Or.inl rfl, Or.inl rfl, trivial⟩ ?_
      exact k _ _ ⟨cr_lo C1 M2.1 (fun x y a => f2 x y (Or.inl a)), b5_lo B1 (fun y => f2 195 y (Or.inl (by omega))), M2⟩
  · refine s_iconst dL_law_373 ?_
    refine s_goto (tgt := 378) dL_law_374 (by decide) ?_
    refine s_aload_n dL_law_378 rfl ?_
    refine s_iload dL_law_379 rfl ?_
    refine s_iconst dL_law_381 ?_
    refine s_iadd dL_law_382 ?_
    refine s_sld dL_law_383 (by omega) (by omega) hl ?_
    refine s_aload_n dL_law_384 rfl ?_
    refine s_iload dL_law_385 rfl ?_
    refine s_iconst dL_law_387 ?_
    refine s_iadd dL_law_388 ?_
    refine s_sld dL_law_389 (by omega) (by omega) hl ?_
    refine s_aload_n dL_law_390 rfl ?_
    refine f_callSX (d' := d - 1) (bc' := 700) (bs' := 1400) (as := [_, _, _, _, _]) hQ_ dL_law_391 sx_name (dd_ (by omega) (by decide)) ⟨hbc, hbs⟩ rfl rfl (Nat.le_of_ble_eq_true rfl) ?_
    refine w_name (q := 1) (i := xz_ xs (i + 2)) (t := xz_ xs (i + 3)) (by omega) (by omega) (by omega) C B (Or.inr rfl) (xz_in xs _) (xz_in xs _) (fun h1 C1 B1 f1 e1 => ?_)
    have M1 := mr_hi M C1.1 f1
    refine s_istore dL_law_394 (by decide) rfl (L' := [(2, _), (2, _), (2, _), (2, _), (0, _), (0, _), (9, _)]) rfl ?_
    refine s_aload_n dL_law_396 rfl ?_
    refine s_aload_n dL_law_397 rfl ?_
    refine s_iload dL_law_398 rfl ?_
    refine s_iconst dL_law_400 ?_
    refine s_iadd dL_law_401 ?_
    refine s_sld dL_law_402 (by omega) (by omega) hl ?_
    refine s_if_eq (tgt := 410) dL_law_403 (by decide) (xz_in xs _) (fun q => absurd q cb) (fun _ => ?_)
    refine s_iconst dL_law_406 ?_
    refine s_goto (tgt := 411) dL_law_407 (by decide) ?_
    refine s_aload_n dL_law_411 rfl ?_
    refine s_iload dL_law_412 rfl ?_
    refine s_iconst dL_law_414 ?_
    refine s_iadd dL_law_415 ?_
    refine s_sld dL_law_416 (by omega) (by omega) hl ?_
    refine s_aload_n dL_law_417 rfl ?_
    refine s_iload dL_law_418 rfl ?_
    refine s_iconst dL_law_420 ?_
    refine s_iadd dL_law_421 ?_
    refine s_sld dL_law_422 (by omega) (by omega) hl ?_
    refine f_callV (d' := d - 1) (bc' := 0) (bs' := 0) (as := [_, _, _]) hQ_ dL_law_423 vf_L_144 (dd_ (by omega) (by decide)) ⟨Nat.zero_le _, Nat.zero_le _⟩ rfl rfl (Nat.le_of_ble_eq_true rfl) kl_7 rfl io_196 ?_
    refine r_name (q := 1) (i := xz_ xs (i + 2)) (t := xz_ xs (i + 3)) (by omega) M1 (Or.inr rfl) (xz_in xs _) (xz_in xs _) (fun h2 M2 f2 t2 => ?_)
    refine s_istore dL_law_426 (by decide) rfl (L' := [(2, _), (2, _), (2, _), (2, _), (0, _), (0, _), (0, _)]) rfl ?_
    refine s_aload_n dL_law_428 rfl ?_
    refine f_callV (d' := d - 1) (bc' := 0) (bs' := 0) (as := []) hQ_ dL_law_429 vf_L_134 (dd_ (by omega) (by decide)) ⟨Nat.zero_le _, Nat.zero_le _⟩ rfl rfl (Nat.le_of_ble_eq_true rfl) kl_7 rfl io_196 ?_
    refine c_X9_thrown t2 ?_
    refine s_iload dL_law_432 rfl ?_
    refine s_icmp_eqS (tgt := 439) dL_law_434 (by decide) ?_
    refine s_iload dL_law_439 rfl ?_
    refine s_if_ne (tgt := 456) dL_law_441 (by decide) (k3_in ok_name) (fun ck => ?_) (fun ck => ?_)
    · refine s_goto (tgt := 2422) dL_law_456 (by decide) ?_
      refine s_fg (L' := [(2, 1399), (2, 0), (2, 196), (2, 224), (0, i), (9, 0), (9, 0)]) ⟨Or.inr rfl, Or.inr rfl, Or.inr rfl, Or.inr rfl, Or.inr rfl, Or.inl rfl, Or.inl rfl, trivial⟩ ?_
      exact k _ _ ⟨cr_lo C1 M2.1 (fun x y a => f2 x y (Or.inl a)), b5_lo B1 (fun y => f2 195 y (Or.inl (by omega))), M2⟩
    · have e2 : h2 224 0 = i3_ (op_name z (1) (xz_ xs (i + 2)) (xz_ xs (i + 3))).2.1 := (f2 224 0 (Or.inr (by omega))).trans (e1 ck)
      refine s_aload_n dL_law_444 rfl ?_
      refine s_iconst dL_law_445 ?_
      refine s_laload dL_law_446 io_224 (by decide) (by decide) ?_
      rw [e2]
      refine s_iload dL_law_447 rfl ?_
      refine s_i2lW dL_law_449 ?_
      refine s_lcmp_eq (tgt := 456) dL_law_450 dL_law_451 (by decide) (inI_L (i3_in _)) (inI_L (i3_in _)) (fun _ => ?_) (fun q => absurd rfl q)
      refine s_goto (tgt := 2422) dL_law_456 (by decide) ?_
      refine s_fg (L' := [(2, 1399), (2, 0), (2, 196), (2, 224), (0, i), (9, 0), (9, 0)]) ⟨Or.inr rfl, Or.inr rfl, Or.inr rfl, Or.inr rfl, Or.inr rfl, Or.inl rfl, Or.inl rfl, trivial⟩ ?_
      exact k _ _ ⟨cr_lo C1 M2.1 (fun x y a => f2 x y (Or.inl a)), b5_lo B1 (fun y => f2 195 y (Or.inl (by omega))), M2⟩
set_option maxRecDepth 100000 in
set_option maxHeartbeats 4000000 in
theorem lc_thing (hl : len ≤ 3072) (i0 : 0 ≤ i) (i1 : i + 6 ≤ len) (hd : 17 ≤ d) (hbc : 700 ≤ bc) (hbs : 1400 ≤ bs) (I : LI_ h z) (k : ∀ h1 z1 : PH, LI_ h1 z1 → SE_ (EL_ b len xs) ML_law d (bc - 700) (bs - 1400) QL_ 2422 [(2, 1399), (2, 0), (2, 196), (2, 224), (0, i), (9, 0), (9, 0)] [] nN h1) : SE_ (EL_ b len xs) ML_law d bc bs QL_ 459 [(2, 1399), (2, 0), (2, 196), (2, 224), (0, i), (9, 0), (9, 0)] [] nN h := by
  obtain ⟨C, B, M⟩ := I
  refine s_aload_n dL_law_459 rfl ?_
  refine s_aload_n dL_law_460 rfl ?_
  refine s_iload dL_law_461 rfl ?_
  refine s_iconst dL_law_463 ?_
  refine s_iadd dL_law_464 ?_
  refine s_sld dL_law_465 (by omega) (by omega) hl ?_
  refine s_aload_n dL_law_466 rfl ?_
  refine s_iload dL_law_467 rfl ?_
  refine s_iconst dL_law_469 ?_
  refine s_iadd dL_law_470 ?_
  refine s_sld dL_law_471 (by omega) (by omega) hl ?_
  refine s_aload_n dL_law_472 rfl ?_
  refine f_callSX (d' := d - 1) (bc' := 700) (bs' := 1400) (as := [_, _, _, _]) hQ_ dL_law_473 sx_thing (dd_ (by omega) (by decide)) ⟨hbc, hbs⟩ rfl rfl (Nat.le_of_ble_eq_true rfl) ?_
  refine w_thing (t := xz_ xs (i + 1)) (v := xz_ xs (i + 2)) (by omega) (by omega) (by omega) C B (xz_in xs _) (xz_in xs _) (fun h1 C1 B1 f1 e1 => ?_)
  have M1 := mr_hi M C1.1 f1
  refine s_istore dL_law_476 (by decide) rfl (L' := [(2, _), (2, _), (2, _), (2, _), (0, _), (0, _), (9, _)]) rfl ?_
  refine s_aload_n dL_law_478 rfl ?_
  refine s_aload_n dL_law_479 rfl ?_
  refine s_iload dL_law_480 rfl ?_
  refine s_iconst dL_law_482 ?_
  refine s_iadd dL_law_483 ?_
  refine s_sld dL_law_484 (by omega) (by omega) hl ?_
  refine s_aload_n dL_law_485 rfl ?_
  refine s_iload dL_law_486 rfl ?_
  refine s_iconst dL_law_488 ?_
  refine s_iadd dL_law_489 ?_
  refine s_sld dL_law_490 (by omega) (by omega) hl ?_
  refine f_callV (d' := d - 1) (bc' := 0) (bs' := 0) (as := [_, _]) hQ_ dL_law_491 vf_L_148 (dd_ (by omega) (by decide)) ⟨Nat.zero_le _, Nat.zero_le _⟩ rfl rfl (Nat.le_of_ble_eq_true rfl) kl_7 rfl io_196 ?_
  refine r_thing (t := xz_ xs (i + 1)) (v := xz_ xs (i + 2)) (by omega) M1 (xz_in xs _) (xz_in xs _) (fun h2 M2 f2 t2 => ?_)
  refine s_istore dL_law_494 (by decide) rfl (L' := [(2, _), (2, _), (2, _), (2, _), (0, _), (0, _), (0, _)]) rfl ?_
  refine s_aload_n dL_law_496 rfl ?_
  refine f_callV (d' := d - 1) (bc' := 0) (bs' := 0) (as := []) hQ_ dL_law_497 vf_L_134 (dd_ (by omega) (by decide)) ⟨Nat.zero_le _, Nat.zero_le _⟩ rfl rfl (Nat.le_of_ble_eq_true rfl) kl_7 rfl io_196 ?_
  refine c_X9_thrown t2 ?_
  refine s_iload dL_law_500 rfl ?_
  refine s_icmp_eqS (tgt := 507) dL_law_502 (by decide) ?_
  refine s_iload dL_law_507 rfl ?_
  refine s_if_ne (tgt := 524) dL_law_509 (by decide) (k3_in ok_thing) (fun ck => ?_) (fun ck => ?_)
  · refine s_goto (tgt := 2422) dL_law_524 (by decide) ?_
    refine s_fg (L' := [(2, 1399), (2, 0), (2, 196), (2, 224), (0, i), (9, 0), (9, 0)]) ⟨Or.inr rfl, Or.inr rfl, Or.inr rfl, Or.inr rfl, Or.inr rfl, Or.inl rfl, Or.inl rfl, trivial⟩ ?_
    exact k _ _ ⟨cr_lo C1 M2.1 (fun x y a => f2 x y (Or.inl a)), b5_lo B1 (fun y => f2 195 y (Or.inl (by omega))), M2⟩
  · have e2 : h2 224 0 = i3_ (op_thing z (xz_ xs (i + 1)) (xz_ xs (i + 2))).2.1 := (f2 224 0 (Or.inr (by omega))).trans (e1 ck)
    refine s_aload_n dL_law_512 rfl ?_
    refine s_iconst dL_law_513 ?_
    refine s_laload dL_law_514 io_224 (by decide) (by decide) ?_
    rw [e2]
    refine s_iload dL_law_515 rfl ?_
    refine s_i2lW dL_law_517 ?_
    refine s_lcmp_eq (tgt := 524) dL_law_518 dL_law_519 (by decide) (inI_L (i3_in _)) (inI_L (i3_in _)) (fun _ => ?_) (fun q => absurd rfl q)
    refine s_goto (tgt := 2422) dL_law_524 (by decide) ?_
    refine s_fg (L' := [(2, 1399), (2, 0), (2, 196), (2, 224), (0, i), (9, 0), (9, 0)]) ⟨Or.inr rfl, Or.inr rfl, Or.inr rfl, Or.inr rfl, Or.inr rfl, Or.inl rfl, Or.inl rfl, trivial⟩ ?_
    exact k _ _ ⟨cr_lo C1 M2.1 (fun x y a => f2 x y (Or.inl a)), b5_lo B1 (fun y => f2 195 y (Or.inl (by omega))), M2⟩
set_option maxRecDepth 100000 in
set_option maxHeartbeats 4000000 in
theorem lc_person (hl : len ≤ 3072) (i0 : 0 ≤ i) (i1 : i + 6 ≤ len) (hd : 17 ≤ d) (hbc : 700 ≤ bc) (hbs : 1400 ≤ bs) (I : LI_ h z) (k : ∀ h1 z1 : PH, LI_ h1 z1 → SE_ (EL_ b len xs) ML_law d (bc - 700) (bs - 1400) QL_ 2422 [(2, 1399), (2, 0), (2, 196), (2, 224), (0, i), (9, 0), (9, 0)] [] nN h1) : SE_ (EL_ b len xs) ML_law d bc bs QL_ 527 [(2, 1399), (2, 0), (2, 196), (2, 224), (0, i), (9, 0), (9, 0)] [] nN h := by
  obtain ⟨C, B, M⟩ := I
  refine s_aload_n dL_law_527 rfl ?_
  refine s_aload_n dL_law_528 rfl ?_
  refine s_iload dL_law_529 rfl ?_
  refine s_iconst dL_law_531 ?_
  refine s_iadd dL_law_532 ?_
  refine s_sld dL_law_533 (by omega) (by omega) hl ?_
  refine s_aload_n dL_law_534 rfl ?_
  refine s_iload dL_law_535 rfl ?_
  refine s_iconst dL_law_537 ?_
  refine s_iadd dL_law_538 ?_
  refine s_sld dL_law_539 (by omega) (by omega) hl ?_
  refine s_aload_n dL_law_540 rfl ?_
  refine f_callSX (d' := d - 1) (bc' := 700) (bs' := 1400) (as := [_, _, _, _]) hQ_ dL_law_541 sx_person (dd_ (by omega) (by decide)) ⟨hbc, hbs⟩ rfl rfl (Nat.le_of_ble_eq_true rfl) ?_
  refine w_person (p := xz_ xs (i + 1)) (v := xz_ xs (i + 2)) (by omega) (by omega) (by omega) C B (xz_in xs _) (xz_in xs _) (fun h1 C1 B1 f1 e1 => ?_)
  have M1 := mr_hi M C1.1 f1
  refine s_istore dL_law_544 (by decide) rfl (L' := [(2, _), (2, _), (2, _), (2, _), (0, _), (0, _), (9, _)]) rfl ?_
  refine s_aload_n dL_law_546 rfl ?_
  refine s_aload_n dL_law_547 rfl ?_
  refine s_iload dL_law_548 rfl ?_
  refine s_iconst dL_law_550 ?_
  refine s_iadd dL_law_551 ?_
  refine s_sld dL_law_552 (by omega) (by omega) hl ?_
  refine s_aload_n dL_law_553 rfl ?_
  refine s_iload dL_law_554 rfl ?_
  refine s_iconst dL_law_556 ?_
  refine s_iadd dL_law_557 ?_
  refine s_sld dL_law_558 (by omega) (by omega) hl ?_
  refine f_callV (d' := d - 1) (bc' := 0) (bs' := 0) (as := [_, _]) hQ_ dL_law_559 vf_L_151 (dd_ (by omega) (by decide)) ⟨Nat.zero_le _, Nat.zero_le _⟩ rfl rfl (Nat.le_of_ble_eq_true rfl) kl_7 rfl io_196 ?_
  refine r_person (p := xz_ xs (i + 1)) (v := xz_ xs (i + 2)) (by omega) M1 (xz_in xs _) (xz_in xs _) (fun h2 M2 f2 t2 => ?_)
  refine s_istore dL_law_562 (by decide) rfl (L' := [(2, _), (2, _), (2, _), (2, _), (0, _), (0, _), (0, _)]) rfl ?_
  refine s_aload_n dL_law_564 rfl ?_
  refine f_callV (d' := d - 1) (bc' := 0) (bs' := 0) (as := []) hQ_ dL_law_565 vf_L_134 (dd_ (by omega) (by decide)) ⟨Nat.zero_le _, Nat.zero_le _⟩ rfl rfl (Nat.le_of_ble_eq_true rfl) kl_7 rfl io_196 ?_
  refine c_X9_thrown t2 ?_
  refine s_iload dL_law_568 rfl ?_
  refine s_icmp_eqS (tgt := 575) dL_law_570 (by decide) ?_
  refine s_iload dL_law_575 rfl ?_
  refine s_if_ne (tgt := 592) dL_law_577 (by decide) (k3_in ok_person) (fun ck => ?_) (fun ck => ?_)
  · refine s_goto (tgt := 2422) dL_law_592 (by decide) ?_
    refine s_fg (L' := [(2, 1399), (2, 0), (2, 196), (2, 224), (0, i), (9, 0), (9, 0)]) ⟨Or.inr rfl, Or.inr rfl, Or.inr rfl, Or.inr rfl, Or.inr rfl, Or.inl rfl, Or.inl rfl, trivial⟩ ?_
    exact k _ _ ⟨cr_lo C1 M2.1 (fun x y a => f2 x y (Or.inl a)), b5_lo B1 (fun y => f2 195 y (Or.inl (by omega))), M2⟩
  · have e2 : h2 224 0 = i3_ (op_person z (xz_ xs (i + 1)) (xz_ xs (i + 2))).2.1 := (f2 224 0 (Or.inr (by omega))).trans (e1 ck)
    refine s_aload_n dL_law_580 rfl ?_
    refine s_iconst dL_law_581 ?_
    refine s_laload dL_law_582 io_224 (by decide) (by decide) ?_
    rw [e2]
    refine s_iload dL_law_583 rfl ?_
    refine s_i2lW dL_law_585 ?_
    refine s_lcmp_eq (tgt := 592) dL_law_586 dL_law_587 (by decide) (inI_L (i3_in _)) (inI_L (i3_in _)) (fun _ => ?_) (fun q => absurd rfl q)
    refine s_goto (tgt := 2422) dL_law_592 (by decide) ?_
    refine s_fg (L' := [(2, 1399), (2, 0), (2, 196), (2, 224), (0, i), (9, 0), (9, 0)]) ⟨Or.inr rfl, Or.inr rfl, Or.inr rfl, Or.inr rfl, Or.inr rfl, Or.inl rfl, Or.inl rfl, trivial⟩ ?_
    exact k _ _ ⟨cr_lo C1 M2.1 (fun x y a => f2 x y (Or.inl a)), b5_lo B1 (fun y => f2 195 y (Or.inl (by omega))), M2⟩
set_option maxRecDepth 100000 in
set_option maxHeartbeats 4000000 in
theorem lc_gift (hl : len ≤ 3072) (i0 : 0 ≤ i) (i1 : i + 6 ≤ len) (hd : 17 ≤ d) (hbc : 700 ≤ bc) (hbs : 1400 ≤ bs) (I : LI_ h z) (k : ∀ h1 z1 : PH, LI_ h1 z1 → SE_ (EL_ b len xs) ML_law d (bc - 700) (bs - 1400) QL_ 2422 [(2, 1399), (2, 0), (2, 196), (2, 224), (0, i), (9, 0), (9, 0)] [] nN h1) : SE_ (EL_ b len xs) ML_law d bc bs QL_ 595 [(2, 1399), (2, 0), (2, 196), (2, 224), (0, i), (9, 0), (9, 0)] [] nN h := by
  obtain ⟨C, B, M⟩ := I
  refine s_aload_n dL_law_595 rfl ?_
  refine s_aload_n dL_law_596 rfl ?_
  refine s_iload dL_law_597 rfl ?_
  refine s_iconst dL_law_599 ?_
  refine s_iadd dL_law_600 ?_
  refine s_sld dL_law_601 (by omega) (by omega) hl ?_
  refine s_aload_n dL_law_602 rfl ?_
  refine s_iload dL_law_603 rfl ?_
  refine s_iconst dL_law_605 ?_
  refine s_iadd dL_law_606 ?_
  refine s_sld dL_law_607 (by omega) (by omega) hl ?_
  refine s_aload_n dL_law_608 rfl ?_
  refine f_callSX (d' := d - 1) (bc' := 700) (bs' := 1400) (as := [_, _, _, _]) hQ_ dL_law_609 sx_gift (dd_ (by omega) (by decide)) ⟨hbc, hbs⟩ rfl rfl (Nat.le_of_ble_eq_true rfl) ?_
  refine w_gift (g := xz_ xs (i + 1)) (v := xz_ xs (i + 2)) (by omega) (by omega) (by omega) C B (xz_in xs _) (xz_in xs _) (fun h1 C1 B1 f1 e1 => ?_)
  have M1 := mr_hi M C1.1 f1
  refine s_istore dL_law_612 (by decide) rfl (L' := [(2, _), (2, _), (2, _), (2, _), (0, _), (0, _), (9, _)]) rfl ?_
  refine s_aload_n dL_law_614 rfl ?_
  refine s_aload_n dL_law_615 rfl ?_
  refine s_iload dL_law_616 rfl ?_
  refine s_iconst dL_law_618 ?_
  refine s_iadd dL_law_619 ?_
  refine s_sld dL_law_620 (by omega) (by omega) hl ?_
  refine s_aload_n dL_law_621 rfl ?_
  refine s_iload dL_law_622 rfl ?_
  refine s_iconst dL_law_624 ?_
  refine s_iadd dL_law_625 ?_
  refine s_sld dL_law_626 (by omega) (by omega) hl ?_
  refine f_callV (d' := d - 1) (bc' := 0) (bs' := 0) (as := [_, _]) hQ_ dL_law_627 vf_L_154 (dd_ (by omega) (by decide)) ⟨Nat.zero_le _, Nat.zero_le _⟩ rfl rfl (Nat.le_of_ble_eq_true rfl) kl_7 rfl io_196 ?_
  refine r_gift (g := xz_ xs (i + 1)) (v := xz_ xs (i + 2)) (by omega) M1 (xz_in xs _) (xz_in xs _) (fun h2 M2 f2 t2 => ?_)
  refine s_istore dL_law_630 (by decide) rfl (L' := [(2, _), (2, _), (2, _), (2, _), (0, _), (0, _), (0, _)]) rfl ?_
  refine s_aload_n dL_law_632 rfl ?_
  refine f_callV (d' := d - 1) (bc' := 0) (bs' := 0) (as := []) hQ_ dL_law_633 vf_L_134 (dd_ (by omega) (by decide)) ⟨Nat.zero_le _, Nat.zero_le _⟩ rfl rfl (Nat.le_of_ble_eq_true rfl) kl_7 rfl io_196 ?_
  refine c_X9_thrown t2 ?_
  refine s_iload dL_law_636 rfl ?_
  refine s_icmp_eqS (tgt := 643) dL_law_638 (by decide) ?_
  refine s_iload dL_law_643 rfl ?_
  refine s_if_ne (tgt := 660) dL_law_645 (by decide) (k3_in ok_gift) (fun ck => ?_) (fun ck => ?_)
  · refine s_goto (tgt := 2422) dL_law_660 (by decide) ?_
    refine s_fg (L' := [(2, 1399), (2, 0), (2, 196), (2, 224), (0, i), (9, 0), (9, 0)]) ⟨Or.inr rfl, Or.inr rfl, Or.inr rfl, Or.inr rfl, Or.inr rfl, Or.inl rfl, Or.inl rfl, trivial⟩ ?_
    exact k _ _ ⟨cr_lo C1 M2.1 (fun x y a => f2 x y (Or.inl a)), b5_lo B1 (fun y => f2 195 y (Or.inl (by omega))), M2⟩
  · have e2 : h2 224 0 = i3_ (op_gift z (xz_ xs (i + 1)) (xz_ xs (i + 2))).2.1 := (f2 224 0 (Or.inr (by omega))).trans (e1 ck)
    refine s_aload_n dL_law_648 rfl ?_
    refine s_iconst dL_law_649 ?_
    refine s_laload dL_law_650 io_224 (by decide) (by decide) ?_
    rw [e2]
    refine s_iload dL_law_651 rfl ?_
    refine s_i2lW dL_law_653 ?_
    refine s_lcmp_eq (tgt := 660) dL_law_654 dL_law_655 (by decide) (inI_L (i3_in _)) (inI_L (i3_in _)) (fun _ => ?_) (fun q => absurd rfl q)
    refine s_goto (tgt := 2422) dL_law_660 (by decide) ?_
    refine s_fg (L' := [(2, 1399), (2, 0), (2, 196), (2, 224), (0, i), (9, 0), (9, 0)]) ⟨Or.inr rfl, Or.inr rfl, Or.inr rfl, Or.inr rfl, Or.inr rfl, Or.inl rfl, Or.inl rfl, trivial⟩ ?_
    exact k _ _ ⟨cr_lo C1 M2.1 (fun x y a => f2 x y (Or.inl a)), b5_lo B1 (fun y => f2 195 y (Or.inl (by omega))), M2⟩
set_option maxRecDepth 100000 in
set_option maxHeartbeats 4000000 in
theorem lc_sell (hl : len ≤ 3072) (i0 : 0 ≤ i) (i1 : i + 6 ≤ len) (hd : 17 ≤ d) (hbc : 700 ≤ bc) (hbs : 1400 ≤ bs) (I : LI_ h z) (k : ∀ h1 z1 : PH, LI_ h1 z1 → SE_ (EL_ b len xs) ML_law d (bc - 700) (bs - 1400) QL_ 2422 [(2, 1399), (2, 0), (2, 196), (2, 224), (0, i), (9, 0), (9, 0)] [] nN h1) : SE_ (EL_ b len xs) ML_law d bc bs QL_ 663 [(2, 1399), (2, 0), (2, 196), (2, 224), (0, i), (9, 0), (9, 0)] [] nN h := by
  obtain ⟨C, B, M⟩ := I
  refine s_aload_n dL_law_663 rfl ?_
  refine s_aload_n dL_law_664 rfl ?_
  refine s_iload dL_law_665 rfl ?_
  refine s_iconst dL_law_667 ?_
  refine s_iadd dL_law_668 ?_
  refine s_sld dL_law_669 (by omega) (by omega) hl ?_
  refine s_aload_n dL_law_670 rfl ?_
  refine s_iload dL_law_671 rfl ?_
  refine s_iconst dL_law_673 ?_
  refine s_iadd dL_law_674 ?_
  refine s_sld dL_law_675 (by omega) (by omega) hl ?_
  refine s_aload_n dL_law_676 rfl ?_
  refine s_iload dL_law_677 rfl ?_
  refine s_iconst dL_law_679 ?_
  refine s_iadd dL_law_680 ?_
  refine s_sld dL_law_681 (by omega) (by omega) hl ?_
  refine s_aload_n dL_law_682 rfl ?_
  refine f_callSX (d' := d - 1) (bc' := 700) (bs' := 1400) (as := [_, _, _, _, _]) hQ_ dL_law_683 sx_sell (dd_ (by omega) (by decide)) ⟨hbc, hbs⟩ rfl rfl (Nat.le_of_ble_eq_true rfl) ?_
  refine w_sell (t := xz_ xs (i + 1)) (p := xz_ xs (i + 2)) (v := xz_ xs (i + 3)) (by omega) (by omega) (by omega) C B (xz_in xs _) (xz_in xs _) (xz_in xs _) (fun h1 C1 B1 f1 e1 => ?_)
  have M1 := mr_hi M C1.1 f1
  refine s_istore dL_law_686 (by decide) rfl (L' := [(2, _), (2, _), (2, _), (2, _), (0, _), (0, _), (9, _)]) rfl ?_
  refine s_aload_n dL_law_688 rfl ?_
  refine s_aload_n dL_law_689 rfl ?_
  refine s_iload dL_law_690 rfl ?_
  refine s_iconst dL_law_692 ?_
  refine s_iadd dL_law_693 ?_
  refine s_sld dL_law_694 (by omega) (by omega) hl ?_
  refine s_aload_n dL_law_695 rfl ?_
  refine s_iload dL_law_696 rfl ?_
  refine s_iconst dL_law_698 ?_
  refine s_iadd dL_law_699 ?_
  refine s_sld dL_law_700 (by omega) (by omega) hl ?_
  refine s_aload_n dL_law_701 rfl ?_
  refine s_iload dL_law_702 rfl ?_
  refine s_iconst dL_law_704 ?_
  refine s_iadd dL_law_705 ?_
  refine s_sld dL_law_706 (by omega) (by omega) hl ?_
  refine f_callV (d' := d - 1) (bc' := 0) (bs' := 0) (as := [_, _, _]) hQ_ dL_law_707 vf_L_158 (dd_ (by omega) (by decide)) ⟨Nat.zero_le _, Nat.zero_le _⟩ rfl rfl (Nat.le_of_ble_eq_true rfl) kl_7 rfl io_196 ?_
  refine r_sell (t := xz_ xs (i + 1)) (p := xz_ xs (i + 2)) (v := xz_ xs (i + 3)) (by omega) M1 (xz_in xs _) (xz_in xs _) (xz_in xs _) (fun h2 M2 f2 t2 => ?_)
  refine s_istore dL_law_710 (by decide) rfl (L' := [(2, _), (2, _), (2, _), (2, _), (0, _), (0, _), (0, _)]) rfl ?_
  refine s_aload_n dL_law_712 rfl ?_
  refine f_callV (d' := d - 1) (bc' := 0) (bs' := 0) (as := []) hQ_ dL_law_713 vf_L_134 (dd_ (by omega) (by decide)) ⟨Nat.zero_le _, Nat.zero_le _⟩ rfl rfl (Nat.le_of_ble_eq_true rfl) kl_7 rfl io_196 ?_
  refine c_X9_thrown t2 ?_
  refine s_iload dL_law_716 rfl ?_
  refine s_icmp_eqS (tgt := 723) dL_law_718 (by decide) ?_
  refine s_iload dL_law_723 rfl ?_
  refine s_if_ne (tgt := 740) dL_law_725 (by decide) (k3_in ok_sell) (fun ck => ?_) (fun ck => ?_)
  · refine s_goto (tgt := 2422) dL_law_740 (by decide) ?_
    refine s_fg (L' := [(2, 1399), (2, 0), (2, 196), (2, 224), (0, i), (9, 0), (9, 0)]) ⟨Or.inr rfl, Or.inr rfl, Or.inr rfl, Or.inr rfl, Or.inr rfl, Or.inl rfl, Or.inl rfl, trivial⟩ ?_
    exact k _ _ ⟨cr_lo C1 M2.1 (fun x y a => f2 x y (Or.inl a)), b5_lo B1 (fun y => f2 195 y (Or.inl (by omega))), M2⟩
  · have e2 : h2 224 0 = i3_ (op_sell z (xz_ xs (i + 1)) (xz_ xs (i + 2)) (xz_ xs (i + 3))).2.1 := (f2 224 0 (Or.inr (by omega))).trans (e1 ck)
    refine s_aload_n dL_law_728 rfl ?_
    refine s_iconst dL_law_729 ?_
    refine s_laload dL_law_730 io_224 (by decide) (by decide) ?_
    rw [e2]
    refine s_iload dL_law_731 rfl ?_
    refine s_i2lW dL_law_733 ?_
    refine s_lcmp_eq (tgt := 740) dL_law_734 dL_law_735 (by decide) (inI_L (i3_in _)) (inI_L (i3_in _)) (fun _ => ?_) (fun q => absurd rfl q)
    refine s_goto (tgt := 2422) dL_law_740 (by decide) ?_
    refine s_fg (L' := [(2, 1399), (2, 0), (2, 196), (2, 224), (0, i), (9, 0), (9, 0)]) ⟨Or.inr rfl, Or.inr rfl, Or.inr rfl, Or.inr rfl, Or.inr rfl, Or.inl rfl, Or.inl rfl, trivial⟩ ?_
    exact k _ _ ⟨cr_lo C1 M2.1 (fun x y a => f2 x y (Or.inl a)), b5_lo B1 (fun y => f2 195 y (Or.inl (by omega))), M2⟩
set_option maxRecDepth 100000 in
set_option maxHeartbeats 4000000 in
theorem lc_change (hl : len ≤ 3072) (i0 : 0 ≤ i) (i1 : i + 6 ≤ len) (hd : 17 ≤ d) (hbc : 700 ≤ bc) (hbs : 1400 ≤ bs) (I : LI_ h z) (k : ∀ h1 z1 : PH, LI_ h1 z1 → SE_ (EL_ b len xs) ML_law d (bc - 700) (bs - 1400) QL_ 2422 [(2, 1399), (2, 0), (2, 196), (2, 224), (0, i), (9, 0), (9, 0)] [] nN h1) : SE_ (EL_ b len xs) ML_law d bc bs QL_ 743 [(2, 1399), (2, 0), (2, 196), (2, 224), (0, i), (9, 0), (9, 0)] [] nN h := by
  obtain ⟨C, B, M⟩ := I
  refine s_aload_n dL_law_743 rfl ?_
  refine s_aload_n dL_law_744 rfl ?_
  refine s_iload dL_law_745 rfl ?_
  refine s_iconst dL_law_747 ?_
  refine s_iadd dL_law_748 ?_
  refine s_sld dL_law_749 (by omega) (by omega) hl ?_
  refine s_aload_n dL_law_750 rfl ?_
  refine s_iload dL_law_751 rfl ?_
  refine s_iconst dL_law_753 ?_
  refine s_iadd dL_law_754 ?_
  refine s_sld dL_law_755 (by omega) (by omega) hl ?_
  refine s_aload_n dL_law_756 rfl ?_
  refine f_callSX (d' := d - 1) (bc' := 700) (bs' := 1400) (as := [_, _, _, _]) hQ_ dL_law_757 sx_change (dd_ (by omega) (by decide)) ⟨hbc, hbs⟩ rfl rfl (Nat.le_of_ble_eq_true rfl) ?_
  refine w_change (t := xz_ xs (i + 1)) (v := xz_ xs (i + 2)) (by omega) (by omega) (by omega) C B (xz_in xs _) (xz_in xs _) (fun h1 C1 B1 f1 e1 => ?_)
  have M1 := mr_hi M C1.1 f1
  refine s_istore dL_law_760 (by decide) rfl (L' := [(2, _), (2, _), (2, _), (2, _), (0, _), (0, _), (9, _)]) rfl ?_
  refine s_aload_n dL_law_762 rfl ?_
  refine s_aload_n dL_law_763 rfl ?_
  refine s_iload dL_law_764 rfl ?_
  refine s_iconst dL_law_766 ?_
  refine s_iadd dL_law_767 ?_
  refine s_sld dL_law_768 (by omega) (by omega) hl ?_
  refine s_aload_n dL_law_769 rfl ?_
  refine s_iload dL_law_770 rfl ?_
  refine s_iconst dL_law_772 ?_
  refine s_iadd dL_law_773 ?_
  refine s_sld dL_law_774 (by omega) (by omega) hl ?_
  refine f_callV (d' := d - 1) (bc' := 0) (bs' := 0) (as := [_, _]) hQ_ dL_law_775 vf_L_161 (dd_ (by omega) (by decide)) ⟨Nat.zero_le _, Nat.zero_le _⟩ rfl rfl (Nat.le_of_ble_eq_true rfl) kl_7 rfl io_196 ?_
  refine r_change (t := xz_ xs (i + 1)) (v := xz_ xs (i + 2)) (by omega) M1 (xz_in xs _) (xz_in xs _) (fun h2 M2 f2 t2 => ?_)
  refine s_istore dL_law_778 (by decide) rfl (L' := [(2, _), (2, _), (2, _), (2, _), (0, _), (0, _), (0, _)]) rfl ?_
  refine s_aload_n dL_law_780 rfl ?_
  refine f_callV (d' := d - 1) (bc' := 0) (bs' := 0) (as := []) hQ_ dL_law_781 vf_L_134 (dd_ (by omega) (by decide)) ⟨Nat.zero_le _, Nat.zero_le _⟩ rfl rfl (Nat.le_of_ble_eq_true rfl) kl_7 rfl io_196 ?_
  refine c_X9_thrown t2 ?_
  refine s_iload dL_law_784 rfl ?_
  refine s_icmp_eqS (tgt := 791) dL_law_786 (by decide) ?_
  refine s_iload dL_law_791 rfl ?_
  refine s_if_ne (tgt := 808) dL_law_793 (by decide) (k3_in ok_change) (fun ck => ?_) (fun ck => ?_)
  · refine s_goto (tgt := 2422) dL_law_808 (by decide) ?_
    refine s_fg (L' := [(2, 1399), (2, 0), (2, 196), (2, 224), (0, i), (9, 0), (9, 0)]) ⟨Or.inr rfl, Or.inr rfl, Or.inr rfl, Or.inr rfl, Or.inr rfl, Or.inl rfl, Or.inl rfl, trivial⟩ ?_
    exact k _ _ ⟨cr_lo C1 M2.1 (fun x y a => f2 x y (Or.inl a)), b5_lo B1 (fun y => f2 195 y (Or.inl (by omega))), M2⟩
  · have e2 : h2 224 0 = i3_ (op_change z (xz_ xs (i + 1)) (xz_ xs (i + 2))).2.1 := (f2 224 0 (Or.inr (by omega))).trans (e1 ck)
    refine s_aload_n dL_law_796 rfl ?_
    refine s_iconst dL_law_797 ?_
    refine s_laload dL_law_798 io_224 (by decide) (by decide) ?_
    rw [e2]
    refine s_iload dL_law_799 rfl ?_
    refine s_i2lW dL_law_801 ?_
    refine s_lcmp_eq (tgt := 808) dL_law_802 dL_law_803 (by decide) (inI_L (i3_in _)) (inI_L (i3_in _)) (fun _ => ?_) (fun q => absurd rfl q)
    refine s_goto (tgt := 2422) dL_law_808 (by decide) ?_
    refine s_fg (L' := [(2, 1399), (2, 0), (2, 196), (2, 224), (0, i), (9, 0), (9, 0)]) ⟨Or.inr rfl, Or.inr rfl, Or.inr rfl, Or.inr rfl, Or.inr rfl, Or.inl rfl, Or.inl rfl, trivial⟩ ?_
    exact k _ _ ⟨cr_lo C1 M2.1 (fun x y a => f2 x y (Or.inl a)), b5_lo B1 (fun y => f2 195 y (Or.inl (by omega))), M2⟩
set_option maxRecDepth 100000 in
set_option maxHeartbeats 4000000 in
theorem lc_lose (hl : len ≤ 3072) (i0 : 0 ≤ i) (i1 : i + 6 ≤ len) (hd : 17 ≤ d) (hbc : 700 ≤ bc) (hbs : 1400 ≤ bs) (I : LI_ h z) (k : ∀ h1 z1 : PH, LI_ h1 z1 → SE_ (EL_ b len xs) ML_law d (bc - 700) (bs - 1400) QL_ 2422 [(2, 1399), (2, 0), (2, 196), (2, 224), (0, i), (9, 0), (9, 0)] [] nN h1) : SE_ (EL_ b len xs) ML_law d bc bs QL_ 811 [(2, 1399), (2, 0), (2, 196), (2, 224), (0, i), (9, 0), (9, 0)] [] nN h := by
  obtain ⟨C, B, M⟩ := I
  refine s_aload_n dL_law_811 rfl ?_
  refine s_aload_n dL_law_812 rfl ?_
  refine s_iload dL_law_813 rfl ?_
  refine s_iconst dL_law_815 ?_
  refine s_iadd dL_law_816 ?_
  refine s_sld dL_law_817 (by omega) (by omega) hl ?_
  refine s_aload_n dL_law_818 rfl ?_
  refine s_iload dL_law_819 rfl ?_
  refine s_iconst dL_law_821 ?_
  refine s_iadd dL_law_822 ?_
  refine s_sld dL_law_823 (by omega) (by omega) hl ?_
  refine s_aload_n dL_law_824 rfl ?_
  refine f_callSX (d' := d - 1) (bc' := 700) (bs' := 1400) (as := [_, _, _, _]) hQ_ dL_law_825 sx_lose (dd_ (by omega) (by decide)) ⟨hbc, hbs⟩ rfl rfl (Nat.le_of_ble_eq_true rfl) ?_
  refine w_lose (t := xz_ xs (i + 1)) (v := xz_ xs (i + 2)) (by omega) (by omega) (by omega) C B (xz_in xs _) (xz_in xs _) (fun h1 C1 B1 f1 e1 => ?_)
  have M1 := mr_hi M C1.1 f1
  refine s_istore dL_law_828 (by decide) rfl (L' := [(2, _), (2, _), (2, _), (2, _), (0, _), (0, _), (9, _)]) rfl ?_
  refine s_aload_n dL_law_830 rfl ?_
  refine s_aload_n dL_law_831 rfl ?_
  refine s_iload dL_law_832 rfl ?_
  refine s_iconst dL_law_834 ?_
  refine s_iadd dL_law_835 ?_
  refine s_sld dL_law_836 (by omega) (by omega) hl ?_
  refine s_aload_n dL_law_837 rfl ?_
  refine s_iload dL_law_838 rfl ?_
  refine s_iconst dL_law_840 ?_
  refine s_iadd dL_law_841 ?_
  refine s_sld dL_law_842 (by omega) (by omega) hl ?_
  refine f_callV (d' := d - 1) (bc' := 0) (bs' := 0) (as := [_, _]) hQ_ dL_law_843 vf_L_164 (dd_ (by omega) (by decide)) ⟨Nat.zero_le _, Nat.zero_le _⟩ rfl rfl (Nat.le_of_ble_eq_true rfl) kl_7 rfl io_196 ?_
  refine r_lose (t := xz_ xs (i + 1)) (v := xz_ xs (i + 2)) (by omega) M1 (xz_in xs _) (xz_in xs _) (fun h2 M2 f2 t2 => ?_)
  refine s_istore dL_law_846 (by decide) rfl (L' := [(2, _), (2, _), (2, _), (2, _), (0, _), (0, _), (0, _)]) rfl ?_
  refine s_aload_n dL_law_848 rfl ?_
  refine f_callV (d' := d - 1) (bc' := 0) (bs' := 0) (as := []) hQ_ dL_law_849 vf_L_134 (dd_ (by omega) (by decide)) ⟨Nat.zero_le _, Nat.zero_le _⟩ rfl rfl (Nat.le_of_ble_eq_true rfl) kl_7 rfl io_196 ?_
  refine c_X9_thrown t2 ?_
  refine s_iload dL_law_852 rfl ?_
  refine s_icmp_eqS (tgt := 859) dL_law_854 (by decide) ?_
  refine s_iload dL_law_859 rfl ?_
  refine s_if_ne (tgt := 876) dL_law_861 (by decide) (k3_in ok_lose) (fun ck => ?_) (fun ck => ?_)
  · refine s_goto (tgt := 2422) dL_law_876 (by decide) ?_
    refine s_fg (L' := [(2, 1399), (2, 0), (2, 196), (2, 224), (0, i), (9, 0), (9, 0)]) ⟨Or.inr rfl, Or.inr rfl, Or.inr rfl, Or.inr rfl, Or.inr rfl, Or.inl rfl, Or.inl rfl, trivial⟩ ?_
    exact k _ _ ⟨cr_lo C1 M2.1 (fun x y a => f2 x y (Or.inl a)), b5_lo B1 (fun y => f2 195 y (Or.inl (by omega))), M2⟩
  · have e2 : h2 224 0 = i3_ (op_lose z (xz_ xs (i + 1)) (xz_ xs (i + 2))).2.1 := (f2 224 0 (Or.inr (by omega))).trans (e1 ck)
    refine s_aload_n dL_law_864 rfl ?_
    refine s_iconst dL_law_865 ?_
    refine s_laload dL_law_866 io_224 (by decide) (by decide) ?_
    rw [e2]
    refine s_iload dL_law_867 rfl ?_
    refine s_i2lW dL_law_869 ?_
    refine s_lcmp_eq (tgt := 876) dL_law_870 dL_law_871 (by decide) (inI_L (i3_in _)) (inI_L (i3_in _)) (fun _ => ?_) (fun q => absurd rfl q)
    refine s_goto (tgt := 2422) dL_law_876 (by decide) ?_
    refine s_fg (L' := [(2, 1399), (2, 0), (2, 196), (2, 224), (0, i), (9, 0), (9, 0)]) ⟨Or.inr rfl, Or.inr rfl, Or.inr rfl, Or.inr rfl, Or.inr rfl, Or.inl rfl, Or.inl rfl, trivial⟩ ?_
    exact k _ _ ⟨cr_lo C1 M2.1 (fun x y a => f2 x y (Or.inl a)), b5_lo B1 (fun y => f2 195 y (Or.inl (by omega))), M2⟩
set_option maxRecDepth 100000 in
set_option maxHeartbeats 4000000 in
theorem lc_die (hl : len ≤ 3072) (i0 : 0 ≤ i) (i1 : i + 6 ≤ len) (hd : 17 ≤ d) (hbc : 700 ≤ bc) (hbs : 1400 ≤ bs) (I : LI_ h z) (k : ∀ h1 z1 : PH, LI_ h1 z1 → SE_ (EL_ b len xs) ML_law d (bc - 700) (bs - 1400) QL_ 2422 [(2, 1399), (2, 0), (2, 196), (2, 224), (0, i), (9, 0), (9, 0)] [] nN h1) : SE_ (EL_ b len xs) ML_law d bc bs QL_ 879 [(2, 1399), (2, 0), (2, 196), (2, 224), (0, i), (9, 0), (9, 0)] [] nN h := by
  obtain ⟨C, B, M⟩ := I
  refine s_aload_n dL_law_879 rfl ?_
  refine s_aload_n dL_law_880 rfl ?_
  refine s_iload dL_law_881 rfl ?_
  refine s_iconst dL_law_883 ?_
  refine s_iadd dL_law_884 ?_
  refine s_sld dL_law_885 (by omega) (by omega) hl ?_
  refine s_aload_n dL_law_886 rfl ?_
  refine f_callSX (d' := d - 1) (bc' := 700) (bs' := 1400) (as := [_, _, _]) hQ_ dL_law_887 sx_die (dd_ (by omega) (by decide)) ⟨hbc, hbs⟩ rfl rfl (Nat.le_of_ble_eq_true rfl) ?_
  refine w_die (p := xz_ xs (i + 1)) (by omega) (by omega) (by omega) C B (xz_in xs _) (fun h1 C1 B1 f1 e1 => ?_)
  have M1 := mr_hi M C1.1 f1
  refine s_istore dL_law_890 (by decide) rfl (L' := [(2, _), (2, _), (2, _), (2, _), (0, _), (0, _), (9, _)]) rfl ?_
  refine s_aload_n dL_law_892 rfl ?_
  refine s_aload_n dL_law_893 rfl ?_
  refine s_iload dL_law_894 rfl ?_
  refine s_iconst dL_law_896 ?_
  refine s_iadd dL_law_897 ?_
  refine s_sld dL_law_898 (by omega) (by omega) hl ?_
  refine f_callV (d' := d - 1) (bc' := 0) (bs' := 0) (as := [_]) hQ_ dL_law_899 vf_L_168 (dd_ (by omega) (by decide)) ⟨Nat.zero_le _, Nat.zero_le _⟩ rfl rfl (Nat.le_of_ble_eq_true rfl) kl_7 rfl io_196 ?_
  refine r_die (p := xz_ xs (i + 1)) (by omega) M1 (xz_in xs _) (fun h2 M2 f2 t2 => ?_)
  refine s_istore dL_law_902 (by decide) rfl (L' := [(2, _), (2, _), (2, _), (2, _), (0, _), (0, _), (0, _)]) rfl ?_
  refine s_aload_n dL_law_904 rfl ?_
  refine f_callV (d' := d - 1) (bc' := 0) (bs' := 0) (as := []) hQ_ dL_law_905 vf_L_134 (dd_ (by omega) (by decide)) ⟨Nat.zero_le _, Nat.zero_le _⟩ rfl rfl (Nat.le_of_ble_eq_true rfl) kl_7 rfl io_196 ?_
  refine c_X9_thrown t2 ?_
  refine s_iload dL_law_908 rfl ?_
  refine s_icmp_eqS (tgt := 915) dL_law_910 (by decide) ?_
  refine s_iload dL_law_915 rfl ?_
  refine s_if_ne (tgt := 932) dL_law_917 (by decide) (k3_in ok_die) (fun ck => ?_) (fun ck => ?_)
  · refine s_goto (tgt := 2422) dL_law_932 (by decide) ?_
    refine s_fg (L' := [(2, 1399), (2, 0), (2, 196), (2, 224), (0, i), (9, 0), (9, 0)]) ⟨Or.inr rfl, Or.inr rfl, Or.inr rfl, Or.inr rfl, Or.inr rfl, Or.inl rfl, Or.inl rfl, trivial⟩ ?_
    exact k _ _ ⟨cr_lo C1 M2.1 (fun x y a => f2 x y (Or.inl a)), b5_lo B1 (fun y => f2 195 y (Or.inl (by omega))), M2⟩
  · have e2 : h2 224 0 = i3_ (op_die z (xz_ xs (i + 1))).2.1 := (f2 224 0 (Or.inr (by omega))).trans (e1 ck)
    refine s_aload_n dL_law_920 rfl ?_
    refine s_iconst dL_law_921 ?_
    refine s_laload dL_law_922 io_224 (by decide) (by decide) ?_
    rw [e2]
    refine s_iload dL_law_923 rfl ?_
    refine s_i2lW dL_law_925 ?_
    refine s_lcmp_eq (tgt := 932) dL_law_926 dL_law_927 (by decide) (inI_L (i3_in _)) (inI_L (i3_in _)) (fun _ => ?_) (fun q => absurd rfl q)
    refine s_goto (tgt := 2422) dL_law_932 (by decide) ?_
    refine s_fg (L' := [(2, 1399), (2, 0), (2, 196), (2, 224), (0, i), (9, 0), (9, 0)]) ⟨Or.inr rfl, Or.inr rfl, Or.inr rfl, Or.inr rfl, Or.inr rfl, Or.inl rfl, Or.inl rfl, trivial⟩ ?_
    exact k _ _ ⟨cr_lo C1 M2.1 (fun x y a => f2 x y (Or.inl a)), b5_lo B1 (fun y => f2 195 y (Or.inl (by omega))), M2⟩
set_option maxRecDepth 100000 in
set_option maxHeartbeats 4000000 in
theorem lc_renounce (hl : len ≤ 3072) (i0 : 0 ≤ i) (i1 : i + 6 ≤ len) (hd : 17 ≤ d) (hbc : 700 ≤ bc) (hbs : 1400 ≤ bs) (I : LI_ h z) (k : ∀ h1 z1 : PH, LI_ h1 z1 → SE_ (EL_ b len xs) ML_law d (bc - 700) (bs - 1400) QL_ 2422 [(2, 1399), (2, 0), (2, 196), (2, 224), (0, i), (9, 0), (9, 0)] [] nN h1) : SE_ (EL_ b len xs) ML_law d bc bs QL_ 935 [(2, 1399), (2, 0), (2, 196), (2, 224), (0, i), (9, 0), (9, 0)] [] nN h := by
  obtain ⟨C, B, M⟩ := I
  refine s_aload_n dL_law_935 rfl ?_
  refine s_aload_n dL_law_936 rfl ?_
  refine s_iload dL_law_937 rfl ?_
  refine s_iconst dL_law_939 ?_
  refine s_iadd dL_law_940 ?_
  refine s_sld dL_law_941 (by omega) (by omega) hl ?_
  refine s_aload_n dL_law_942 rfl ?_
  refine s_iload dL_law_943 rfl ?_
  refine s_iconst dL_law_945 ?_
  refine s_iadd dL_law_946 ?_
  refine s_sld dL_law_947 (by omega) (by omega) hl ?_
  refine s_if_eq (tgt := 955) dL_law_948 (by decide) (xz_in xs _) (fun cb => ?_) (fun cb => ?_)
  · refine s_iconst dL_law_955 ?_
    refine s_aload_n dL_law_956 rfl ?_
    refine f_callSX (d' := d - 1) (bc' := 700) (bs' := 1400) (as := [_, _, _, _]) hQ_ dL_law_957 sx_renounce (dd_ (by omega) (by decide)) ⟨hbc, hbs⟩ rfl rfl (Nat.le_of_ble_eq_true rfl) ?_
    refine w_renounce (g := xz_ xs (i + 1)) (v := 0) (by omega) (by omega) (by omega) C B (xz_in xs _) (Or.inl rfl) (fun h1 C1 B1 f1 e1 => ?_)
    have M1 := mr_hi M C1.1 f1
    refine s_istore dL_law_960 (by decide) rfl (L' := [(2, _), (2, _), (2, _), (2, _), (0, _), (0, _), (9, _)]) rfl ?_
    refine s_aload_n dL_law_962 rfl ?_
    refine s_aload_n dL_law_963 rfl ?_
    refine s_iload dL_law_964 rfl ?_
    refine s_iconst dL_law_966 ?_
    refine s_iadd dL_law_967 ?_
    refine s_sld dL_law_968 (by omega) (by omega) hl ?_
    refine s_aload_n dL_law_969 rfl ?_
    refine s_iload dL_law_970 rfl ?_
    refine s_iconst dL_law_972 ?_
    refine s_iadd dL_law_973 ?_
    refine s_sld dL_law_974 (by omega) (by omega) hl ?_
    refine s_if_eq (tgt := 982) dL_law_975 (by decide) (xz_in xs _) (fun _ => ?_) (fun q => absurd cb q)
    refine s_iconst dL_law_982 ?_
    refine f_callV (d' := d - 1) (bc' := 0) (bs' := 0) (as := [_, _]) hQ_ dL_law_983 vf_L_172 (dd_ (by omega) (by decide)) ⟨Nat.zero_le _, Nat.zero_le _⟩ rfl rfl (Nat.le_of_ble_eq_true rfl) kl_7 rfl io_196 ?_
    refine r_renounce (g := xz_ xs (i + 1)) (v := 0) (by omega) M1 (xz_in xs _) (Or.inl rfl) (fun h2 M2 f2 t2 => ?_)
    refine s_istore dL_law_986 (by decide) rfl (L' := [(2, _), (2, _), (2, _), (2, _), (0, _), (0, _), (0, _)]) rfl ?_
    refine s_aload_n dL_law_988 rfl ?_
    refine f_callV (d' := d - 1) (bc' := 0) (bs' := 0) (as := []) hQ_ dL_law_989 vf_L_134 (dd_ (by omega) (by decide)) ⟨Nat.zero_le _, Nat.zero_le _⟩ rfl rfl (Nat.le_of_ble_eq_true rfl) kl_7 rfl io_196 ?_
    refine c_X9_thrown t2 ?_
    refine s_iload dL_law_992 rfl ?_
    refine s_icmp_eqS (tgt := 999) dL_law_994 (by decide) ?_
    refine s_iload dL_law_999 rfl ?_
    refine s_if_ne (tgt := 1023) dL_law_1001 (by decide) (k3_in ok_renounce) (fun ck => ?_) (fun ck => ?_)
    · refine s_goto (tgt := 2422) dL_law_1023 (by decide) ?_
      refine s_fg (L' := [(2, 1399), (2, 0), (2, 196), (2, 224), (0, i), (9, 0), (9, 0)]) ⟨Or.inr rfl, Or.inr rfl, Or.inr rfl, Or.inr rfl, Or.inr rfl, Or.inl rfl, Or.inl rfl, trivial⟩ ?_
      exact k _ _ ⟨cr_lo C1 M2.1 (fun x y a => f2 x y (Or.inl a)), b5_lo B1 (fun y => f2 195 y (Or.inl (by omega))), M2⟩
    · have e2 : h2 224 0 = i3_ (op_renounce z (xz_ xs (i + 1)) (0)).2.1 := (f2 224 0 (Or.inr (by omega))).trans (e1 ck)
      refine s_aload_n dL_law_1004 rfl ?_
      refine s_iconst dL_law_1005 ?_
      refine s_laload dL_law_1006 io_224 (by decide) (by decide) ?_
      refine s_iload dL_law_1007 rfl ?_
      have o1 := o01_renounce (z := z) (g := xz_ xs (i + 1)) (v := 0)
      refine s_if_eq (tgt := 1016) dL_law_1009 (by decide) ⟨by omega, by omega⟩ (fun c1 => ?_) (fun c1 => ?_)
      · rw [show h2 224 0 = 0 from e2.trans (by rw [c1]; decide)]
        refine s_lconstz (z := 0) dL_law_1016 rfl ?_
        refine s_lcmp_eq (tgt := 1023) dL_law_1017 dL_law_1018 (by decide) ⟨by decide, by decide⟩ ⟨by decide, by decide⟩ (fun _ => ?_) (fun q => absurd rfl q)
        refine s_goto (tgt := 2422) dL_law_1023 (by decide) ?_
        refine s_fg (L' := [(2, 1399), (2, 0), (2, 196), (2, 224), (0, i), (9, 0), (9, 0)]) ⟨Or.inr rfl, Or.inr rfl, Or.inr rfl, Or.inr rfl, Or.inr rfl, Or.inl rfl, Or.inl rfl, trivial⟩ ?_
        exact k _ _ ⟨cr_lo C1 M2.1 (fun x y a => f2 x y (Or.inl a)), b5_lo B1 (fun y => f2 195 y (Or.inl (by omega))), M2⟩
      · rw [show h2 224 0 = 1 from e2.trans (by rw [show (op_renounce z (xz_ xs (i + 1)) (0)).2.1 = 1 by omega]; decide)]
        refine s_lconstz (z := 1) dL_law_1012 rfl ?_
        refine s_goto (tgt := 1017) dL_law_1013 (by decide) ?_
        refine s_lcmp_eq (tgt := 1023) dL_law_1017 dL_law_1018 (by decide) ⟨by decide, by decide⟩ ⟨by decide, by decide⟩ (fun _ => ?_) (fun q => absurd rfl q)
        refine s_goto (tgt := 2422) dL_law_1023 (by decide) ?_
        refine s_fg (L' := [(2, 1399), (2, 0), (2, 196), (2, 224), (0, i), (9, 0), (9, 0)]) ⟨Or.inr rfl, Or.inr rfl, Or.inr rfl, Or.inr rfl, Or.inr rfl, Or.inl rfl, Or.inl rfl, trivial⟩ ?_
        exact k _ _ ⟨cr_lo C1 M2.1 (fun x y a => f2 x y (Or.inl a)), b5_lo B1 (fun y => f2 195 y (Or.inl (by omega))), M2⟩
  · refine s_iconst dL_law_951 ?_
    refine s_goto (tgt := 956) dL_law_952 (by decide) ?_
    refine s_aload_n dL_law_956 rfl ?_
    refine f_callSX (d' := d - 1) (bc' := 700) (bs' := 1400) (as := [_, _, _, _]) hQ_ dL_law_957 sx_renounce (dd_ (by omega) (by decide)) ⟨hbc, hbs⟩ rfl rfl (Nat.le_of_ble_eq_true rfl) ?_
    refine w_renounce (g := xz_ xs (i + 1)) (v := 1) (by omega) (by omega) (by omega) C B (xz_in xs _) (Or.inr rfl) (fun h1 C1 B1 f1 e1 => ?_)
    have M1 := mr_hi M C1.1 f1
    refine s_istore dL_law_960 (by decide) rfl (L' := [(2, _), (2, _), (2, _), (2, _), (0, _), (0, _), (9, _)]) rfl ?_
    refine s_aload_n dL_law_962 rfl ?_
    refine s_aload_n dL_law_963 rfl ?_
    refine s_iload dL_law_964 rfl ?_
    refine s_iconst dL_law_966 ?_
    refine s_iadd dL_law_967 ?_
    refine s_sld dL_law_968 (by omega) (by omega) hl ?_
    refine s_aload_n dL_law_969 rfl ?_
    refine s_iload dL_law_970 rfl ?_
    refine s_iconst dL_law_972 ?_
    refine s_iadd dL_law_973 ?_
    refine s_sld dL_law_974 (by omega) (by omega) hl ?_
    refine s_if_eq (tgt := 982) dL_law_975 (by decide) (xz_in xs _) (fun q => absurd q cb) (fun _ => ?_)
    refine s_iconst dL_law_978 ?_
    refine s_goto (tgt := 983) dL_law_979 (by decide) ?_
    refine f_callV (d' := d - 1) (bc' := 0) (bs' := 0) (as := [_, _]) hQ_ dL_law_983 vf_L_172 (dd_ (by omega) (by decide)) ⟨Nat.zero_le _, Nat.zero_le _⟩ rfl rfl (Nat.le_of_ble_eq_true rfl) kl_7 rfl io_196 ?_
    refine r_renounce (g := xz_ xs (i + 1)) (v := 1) (by omega) M1 (xz_in xs _) (Or.inr rfl) (fun h2 M2 f2 t2 => ?_)
    refine s_istore dL_law_986 (by decide) rfl (L' := [(2, _), (2, _), (2, _), (2, _), (0, _), (0, _), (0, _)]) rfl ?_
    refine s_aload_n dL_law_988 rfl ?_
    refine f_callV (d' := d - 1) (bc' := 0) (bs' := 0) (as := []) hQ_ dL_law_989 vf_L_134 (dd_ (by omega) (by decide)) ⟨Nat.zero_le _, Nat.zero_le _⟩ rfl rfl (Nat.le_of_ble_eq_true rfl) kl_7 rfl io_196 ?_
    refine c_X9_thrown t2 ?_
    refine s_iload dL_law_992 rfl ?_
    refine s_icmp_eqS (tgt := 999) dL_law_994 (by decide) ?_
    refine s_iload dL_law_999 rfl ?_
    refine s_if_ne (tgt := 1023) dL_law_1001 (by decide) (k3_in ok_renounce) (fun ck => ?_) (fun ck => ?_)
    · refine s_goto (tgt := 2422) dL_law_1023 (by decide) ?_
      refine s_fg (L' := [(2, 1399), (2, 0), (2, 196), (2, 224), (0, i), (9, 0), (9, 0)]) ⟨Or.inr rfl, Or.inr rfl, Or.inr rfl, Or.inr rfl, Or.inr rfl, Or.inl rfl, Or.inl rfl, trivial⟩ ?_
      exact k _ _ ⟨cr_lo C1 M2.1 (fun x y a => f2 x y (Or.inl a)), b5_lo B1 (fun y => f2 195 y (Or.inl (by omega))), M2⟩
    · have e2 : h2 224 0 = i3_ (op_renounce z (xz_ xs (i + 1)) (1)).2.1 := (f2 224 0 (Or.inr (by omega))).trans (e1 ck)
      refine s_aload_n dL_law_1004 rfl ?_
      refine s_iconst dL_law_1005 ?_
      refine s_laload dL_law_1006 io_224 (by decide) (by decide) ?_
      refine s_iload dL_law_1007 rfl ?_
      have o1 := o01_renounce (z := z) (g := xz_ xs (i + 1)) (v := 1)
      refine s_if_eq (tgt := 1016) dL_law_1009 (by decide) ⟨by omega, by omega⟩ (fun c1 => ?_) (fun c1 => ?_)
      · rw [show h2 224 0 = 0 from e2.trans (by rw [c1]; decide)]
        refine s_lconstz (z := 0) dL_law_1016 rfl ?_
        refine s_lcmp_eq (tgt := 1023) dL_law_1017 dL_law_1018 (by decide) ⟨by decide, by decide⟩ ⟨by decide, by decide⟩ (fun _ => ?_) (fun q => absurd rfl q)
        refine s_goto (tgt := 2422) dL_law_1023 (by decide) ?_
        refine s_fg (L' := [(2, 1399), (2, 0), (2, 196), (2, 224), (0, i), (9, 0), (9, 0)]) ⟨Or.inr rfl, Or.inr rfl, Or.inr rfl, Or.inr rfl, Or.inr rfl, Or.inl rfl, Or.inl rfl, trivial⟩ ?_
        exact k _ _ ⟨cr_lo C1 M2.1 (fun x y a => f2 x y (Or.inl a)), b5_lo B1 (fun y => f2 195 y (Or.inl (by omega))), M2⟩
      · rw [show h2 224 0 = 1 from e2.trans (by rw [show (op_renounce z (xz_ xs (i + 1)) (1)).2.1 = 1 by omega]; decide)]
        refine s_lconstz (z := 1) dL_law_1012 rfl ?_
        refine s_goto (tgt := 1017) dL_law_1013 (by decide) ?_
        refine s_lcmp_eq (tgt := 1023) dL_law_1017 dL_law_1018 (by decide) ⟨by decide, by decide⟩ ⟨by decide, by decide⟩ (fun _ => ?_) (fun q => absurd rfl q)
        refine s_goto (tgt := 2422) dL_law_1023 (by decide) ?_
        refine s_fg (L' := [(2, 1399), (2, 0), (2, 196), (2, 224), (0, i), (9, 0), (9, 0)]) ⟨Or.inr rfl, Or.inr rfl, Or.inr rfl, Or.inr rfl, Or.inr rfl, Or.inl rfl, Or.inl rfl, trivial⟩ ?_
        exact k _ _ ⟨cr_lo C1 M2.1 (fun x y a => f2 x y (Or.inl a)), b5_lo B1 (fun y => f2 195 y (Or.inl (by omega))), M2⟩
set_option maxRecDepth 100000 in
set_option maxHeartbeats 4000000 in
theorem lc_set (hl : len ≤ 3072) (i0 : 0 ≤ i) (i1 : i + 6 ≤ len) (hd : 17 ≤ d) (hbc : 700 ≤ bc) (hbs : 1400 ≤ bs) (I : LI_ h z) (k : ∀ h1 z1 : PH, LI_ h1 z1 → SE_ (EL_ b len xs) ML_law d (bc - 700) (bs - 1400) QL_ 2422 [(2, 1399), (2, 0), (2, 196), (2, 224), (0, i), (9, 0), (9, 0)] [] nN h1) : SE_ (EL_ b len xs) ML_law d bc bs QL_ 1026 [(2, 1399), (2, 0), (2, 196), (2, 224), (0, i), (9, 0), (9, 0)] [] nN h := by
  obtain ⟨C, B, M⟩ := I
  refine s_aload_n dL_law_1026 rfl ?_
  refine s_aload_n dL_law_1027 rfl ?_
  refine s_iload dL_law_1028 rfl ?_
  refine s_iconst dL_law_1030 ?_
  refine s_iadd dL_law_1031 ?_
  refine s_sld dL_law_1032 (by omega) (by omega) hl ?_
  refine s_aload_n dL_law_1033 rfl ?_
  refine s_iload dL_law_1034 rfl ?_
  refine s_iconst dL_law_1036 ?_
  refine s_iadd dL_law_1037 ?_
  refine s_sld dL_law_1038 (by omega) (by omega) hl ?_
  refine s_aload_n dL_law_1039 rfl ?_
  refine f_callSX (d' := d - 1) (bc' := 700) (bs' := 1400) (as := [_, _, _, _]) hQ_ dL_law_1040 sx_set (dd_ (by omega) (by decide)) ⟨hbc, hbs⟩ rfl rfl (Nat.le_of_ble_eq_true rfl) ?_
  refine w_set (t := xz_ xs (i + 1)) (v := xz_ xs (i + 2)) (by omega) (by omega) (by omega) C B (xz_in xs _) (xz_in xs _) (fun h1 C1 B1 f1 e1 => ?_)
  have M1 := mr_hi M C1.1 f1
  refine s_istore dL_law_1043 (by decide) rfl (L' := [(2, _), (2, _), (2, _), (2, _), (0, _), (0, _), (9, _)]) rfl ?_
  refine s_aload_n dL_law_1045 rfl ?_
  refine s_aload_n dL_law_1046 rfl ?_
  refine s_iload dL_law_1047 rfl ?_
  refine s_iconst dL_law_1049 ?_
  refine s_iadd dL_law_1050 ?_
  refine s_sld dL_law_1051 (by omega) (by omega) hl ?_
  refine s_aload_n dL_law_1052 rfl ?_
  refine s_iload dL_law_1053 rfl ?_
  refine s_iconst dL_law_1055 ?_
  refine s_iadd dL_law_1056 ?_
  refine s_sld dL_law_1057 (by omega) (by omega) hl ?_
  refine f_callV (d' := d - 1) (bc' := 0) (bs' := 0) (as := [_, _]) hQ_ dL_law_1058 vf_L_175 (dd_ (by omega) (by decide)) ⟨Nat.zero_le _, Nat.zero_le _⟩ rfl rfl (Nat.le_of_ble_eq_true rfl) kl_7 rfl io_196 ?_
  refine r_set (t := xz_ xs (i + 1)) (v := xz_ xs (i + 2)) (by omega) M1 (xz_in xs _) (xz_in xs _) (fun h2 M2 f2 t2 => ?_)
  refine s_istore dL_law_1061 (by decide) rfl (L' := [(2, _), (2, _), (2, _), (2, _), (0, _), (0, _), (0, _)]) rfl ?_
  refine s_aload_n dL_law_1063 rfl ?_
  refine f_callV (d' := d - 1) (bc' := 0) (bs' := 0) (as := []) hQ_ dL_law_1064 vf_L_134 (dd_ (by omega) (by decide)) ⟨Nat.zero_le _, Nat.zero_le _⟩ rfl rfl (Nat.le_of_ble_eq_true rfl) kl_7 rfl io_196 ?_
  refine c_X9_thrown t2 ?_
  refine s_iload dL_law_1067 rfl ?_
  refine s_icmp_eqS (tgt := 1074) dL_law_1069 (by decide) ?_
  refine s_iload dL_law_1074 rfl ?_
  refine s_if_ne (tgt := 1091) dL_law_1076 (by decide) (k3_in ok_set) (fun ck => ?_) (fun ck => ?_)
  · refine s_goto (tgt := 2422) dL_law_1091 (by decide) ?_
    refine s_fg (L' := [(2, 1399), (2, 0), (2, 196), (2, 224), (0, i), (9, 0), (9, 0)]) ⟨Or.inr rfl, Or.inr rfl, Or.inr rfl, Or.inr rfl, Or.inr rfl, Or.inl rfl, Or.inl rfl, trivial⟩ ?_
    exact k _ _ ⟨cr_lo C1 M2.1 (fun x y a => f2 x y (Or.inl a)), b5_lo B1 (fun y => f2 195 y (Or.inl (by omega))), M2⟩
  · have e2 : h2 224 0 = i3_ (op_set z (xz_ xs (i + 1)) (xz_ xs (i + 2))).2.1 := (f2 224 0 (Or.inr (by omega))).trans (e1 ck)
    refine s_aload_n dL_law_1079 rfl ?_
    refine s_iconst dL_law_1080 ?_
    refine s_laload dL_law_1081 io_224 (by decide) (by decide) ?_
    rw [e2]
    refine s_iload dL_law_1082 rfl ?_
    refine s_i2lW dL_law_1084 ?_
    refine s_lcmp_eq (tgt := 1091) dL_law_1085 dL_law_1086 (by decide) (inI_L (i3_in _)) (inI_L (i3_in _)) (fun _ => ?_) (fun q => absurd rfl q)
    refine s_goto (tgt := 2422) dL_law_1091 (by decide) ?_
    refine s_fg (L' := [(2, 1399), (2, 0), (2, 196), (2, 224), (0, i), (9, 0), (9, 0)]) ⟨Or.inr rfl, Or.inr rfl, Or.inr rfl, Or.inr rfl, Or.inr rfl, Or.inl rfl, Or.inl rfl, trivial⟩ ?_
    exact k _ _ ⟨cr_lo C1 M2.1 (fun x y a => f2 x y (Or.inl a)), b5_lo B1 (fun y => f2 195 y (Or.inl (by omega))), M2⟩
set_option maxRecDepth 100000 in
set_option maxHeartbeats 4000000 in
theorem lc_undo (hl : len ≤ 3072) (i0 : 0 ≤ i) (i1 : i + 6 ≤ len) (hd : 17 ≤ d) (hbc : 700 ≤ bc) (hbs : 1400 ≤ bs) (I : LI_ h z) (k : ∀ h1 z1 : PH, LI_ h1 z1 → SE_ (EL_ b len xs) ML_law d (bc - 700) (bs - 1400) QL_ 2422 [(2, 1399), (2, 0), (2, 196), (2, 224), (0, i), (9, 0), (9, 0)] [] nN h1) : SE_ (EL_ b len xs) ML_law d bc bs QL_ 1094 [(2, 1399), (2, 0), (2, 196), (2, 224), (0, i), (9, 0), (9, 0)] [] nN h := by
  obtain ⟨C, B, M⟩ := I
  refine s_aload_n dL_law_1094 rfl ?_
  refine f_callV (d' := d - 1) (bc' := 700) (bs' := 1400) (as := []) hQ_ dL_law_1095 vf_L_176 (dd_ (by omega) (by decide)) ⟨hbc, hbs⟩ rfl rfl (Nat.le_of_ble_eq_true rfl) kl_6 rfl io_0 ?_
  refine v_undo (by omega) (by omega) (by omega) C B (fun h1 C1 B1 f1 => ?_)
  have M1 := mr_hi M C1.1 f1
  refine s_aload_n dL_law_1098 rfl ?_
  refine f_callV (d' := d - 1) (bc' := 0) (bs' := 0) (as := []) hQ_ dL_law_1099 vf_L_179 (dd_ (by omega) (by decide)) ⟨Nat.zero_le _, Nat.zero_le _⟩ rfl rfl (Nat.le_of_ble_eq_true rfl) kl_7 rfl io_196 ?_
  refine r_undo (by omega) M1 (fun h2 M2 f2 t2 => ?_)
  refine s_icmp_eqS (tgt := 2422) dL_law_1102 (by decide) ?_
  exact k _ _ ⟨cr_lo C1 M2.1 (fun x y a => f2 x y (Or.inl a)), b5_lo B1 (fun y => f2 195 y (Or.inl (by omega))), M2⟩
set_option maxRecDepth 100000 in
set_option maxHeartbeats 4000000 in
theorem lc_estate (hl : len ≤ 3072) (i0 : 0 ≤ i) (i1 : i + 6 ≤ len) (hd : 17 ≤ d) (hbc : 700 ≤ bc) (hbs : 1400 ≤ bs) (I : LI_ h z) (k : ∀ h1 z1 : PH, LI_ h1 z1 → SE_ (EL_ b len xs) ML_law d (bc - 700) (bs - 1400) QL_ 2422 [(2, 1399), (2, 0), (2, 196), (2, 224), (0, i), (9, 0), (9, 0)] [] nN h1) : SE_ (EL_ b len xs) ML_law d bc bs QL_ 1107 [(2, 1399), (2, 0), (2, 196), (2, 224), (0, i), (9, 0), (9, 0)] [] nN h := by
  obtain ⟨C, B, M⟩ := I
  refine s_aload_n dL_law_1107 rfl ?_
  refine s_aload_n dL_law_1108 rfl ?_
  refine s_iload dL_law_1109 rfl ?_
  refine s_iconst dL_law_1111 ?_
  refine s_iadd dL_law_1112 ?_
  refine s_sld dL_law_1113 (by omega) (by omega) hl ?_
  refine s_aload_n dL_law_1114 rfl ?_
  refine f_callSX (d' := d - 1) (bc' := 700) (bs' := 1400) (as := [_, _, _]) hQ_ dL_law_1115 sx_estate (dd_ (by omega) (by decide)) ⟨hbc, hbs⟩ rfl rfl (Nat.le_of_ble_eq_true rfl) ?_
  refine w_estate (v := xz_ xs (i + 1)) (by omega) (by omega) (by omega) C B (xz_in xs _) (fun h1 C1 B1 f1 e1 => ?_)
  have M1 := mr_hi M C1.1 f1
  refine s_istore dL_law_1118 (by decide) rfl (L' := [(2, _), (2, _), (2, _), (2, _), (0, _), (0, _), (9, _)]) rfl ?_
  refine s_aload_n dL_law_1120 rfl ?_
  refine s_aload_n dL_law_1121 rfl ?_
  refine s_iload dL_law_1122 rfl ?_
  refine s_iconst dL_law_1124 ?_
  refine s_iadd dL_law_1125 ?_
  refine s_sld dL_law_1126 (by omega) (by omega) hl ?_
  refine f_callV (d' := d - 1) (bc' := 0) (bs' := 0) (as := [_]) hQ_ dL_law_1127 vf_L_182 (dd_ (by omega) (by decide)) ⟨Nat.zero_le _, Nat.zero_le _⟩ rfl rfl (Nat.le_of_ble_eq_true rfl) kl_7 rfl io_196 ?_
  refine r_estate (v := xz_ xs (i + 1)) (by omega) M1 (xz_in xs _) (fun h2 M2 f2 t2 => ?_)
  refine s_istore dL_law_1130 (by decide) rfl (L' := [(2, _), (2, _), (2, _), (2, _), (0, _), (0, _), (0, _)]) rfl ?_
  refine s_aload_n dL_law_1132 rfl ?_
  refine f_callV (d' := d - 1) (bc' := 0) (bs' := 0) (as := []) hQ_ dL_law_1133 vf_L_134 (dd_ (by omega) (by decide)) ⟨Nat.zero_le _, Nat.zero_le _⟩ rfl rfl (Nat.le_of_ble_eq_true rfl) kl_7 rfl io_196 ?_
  refine c_X9_thrown t2 ?_
  refine s_iload dL_law_1136 rfl ?_
  refine s_icmp_eqS (tgt := 1143) dL_law_1138 (by decide) ?_
  refine s_iload dL_law_1143 rfl ?_
  refine s_if_ne (tgt := 1160) dL_law_1145 (by decide) (k3_in ok_estate) (fun ck => ?_) (fun ck => ?_)
  · refine s_goto (tgt := 2422) dL_law_1160 (by decide) ?_
    refine s_fg (L' := [(2, 1399), (2, 0), (2, 196), (2, 224), (0, i), (9, 0), (9, 0)]) ⟨Or.inr rfl, Or.inr rfl, Or.inr rfl, Or.inr rfl, Or.inr rfl, Or.inl rfl, Or.inl rfl, trivial⟩ ?_
    exact k _ _ ⟨cr_lo C1 M2.1 (fun x y a => f2 x y (Or.inl a)), b5_lo B1 (fun y => f2 195 y (Or.inl (by omega))), M2⟩
  · have e2 : h2 224 0 = i3_ (op_estate z (xz_ xs (i + 1))).2.1 := (f2 224 0 (Or.inr (by omega))).trans (e1 ck)
    refine s_aload_n dL_law_1148 rfl ?_
    refine s_iconst dL_law_1149 ?_
    refine s_laload dL_law_1150 io_224 (by decide) (by decide) ?_
    rw [e2]
    refine s_iload dL_law_1151 rfl ?_
    refine s_i2lW dL_law_1153 ?_
    refine s_lcmp_eq (tgt := 1160) dL_law_1154 dL_law_1155 (by decide) (inI_L (i3_in _)) (inI_L (i3_in _)) (fun _ => ?_) (fun q => absurd rfl q)
    refine s_goto (tgt := 2422) dL_law_1160 (by decide) ?_
    refine s_fg (L' := [(2, 1399), (2, 0), (2, 196), (2, 224), (0, i), (9, 0), (9, 0)]) ⟨Or.inr rfl, Or.inr rfl, Or.inr rfl, Or.inr rfl, Or.inr rfl, Or.inl rfl, Or.inl rfl, trivial⟩ ?_
    exact k _ _ ⟨cr_lo C1 M2.1 (fun x y a => f2 x y (Or.inl a)), b5_lo B1 (fun y => f2 195 y (Or.inl (by omega))), M2⟩
set_option maxRecDepth 100000 in
set_option maxHeartbeats 4000000 in
theorem lc_due (hl : len ≤ 3072) (i0 : 0 ≤ i) (i1 : i + 6 ≤ len) (hd : 17 ≤ d) (hbc : 700 ≤ bc) (hbs : 1400 ≤ bs) (I : LI_ h z) (k : ∀ h1 z1 : PH, LI_ h1 z1 → SE_ (EL_ b len xs) ML_law d (bc - 700) (bs - 1400) QL_ 2422 [(2, 1399), (2, 0), (2, 196), (2, 224), (0, i), (9, 0), (9, 0)] [] nN h1) : SE_ (EL_ b len xs) ML_law d bc bs QL_ 1163 [(2, 1399), (2, 0), (2, 196), (2, 224), (0, i), (9, 0), (9, 0)] [] nN h := by
  obtain ⟨C, B, M⟩ := I
  refine s_aload_n dL_law_1163 rfl ?_
  refine s_aload_n dL_law_1164 rfl ?_
  refine s_iload dL_law_1165 rfl ?_
  refine s_iconst dL_law_1167 ?_
  refine s_iadd dL_law_1168 ?_
  refine s_sld dL_law_1169 (by omega) (by omega) hl ?_
  refine s_aload_n dL_law_1170 rfl ?_
  refine s_iload dL_law_1171 rfl ?_
  refine s_iconst dL_law_1173 ?_
  refine s_iadd dL_law_1174 ?_
  refine s_sld dL_law_1175 (by omega) (by omega) hl ?_
  refine s_aload_n dL_law_1176 rfl ?_
  refine f_callSX (d' := d - 1) (bc' := 700) (bs' := 1400) (as := [_, _, _, _]) hQ_ dL_law_1177 sx_due (dd_ (by omega) (by decide)) ⟨hbc, hbs⟩ rfl rfl (Nat.le_of_ble_eq_true rfl) ?_
  refine w_due (g := xz_ xs (i + 1)) (c := xz_ xs (i + 2)) (by omega) (by omega) (by omega) C B (xz_in xs _) (xz_in xs _) (fun h1 C1 B1 f1 e1 => ?_)
  have M1 := mr_hi M C1.1 f1
  refine s_istore dL_law_1180 (by decide) rfl (L' := [(2, _), (2, _), (2, _), (2, _), (0, _), (0, _), (9, _)]) rfl ?_
  refine s_aload_n dL_law_1182 rfl ?_
  refine s_aload_n dL_law_1183 rfl ?_
  refine s_iload dL_law_1184 rfl ?_
  refine s_iconst dL_law_1186 ?_
  refine s_iadd dL_law_1187 ?_
  refine s_sld dL_law_1188 (by omega) (by omega) hl ?_
  refine s_aload_n dL_law_1189 rfl ?_
  refine s_iload dL_law_1190 rfl ?_
  refine s_iconst dL_law_1192 ?_
  refine s_iadd dL_law_1193 ?_
  refine s_sld dL_law_1194 (by omega) (by omega) hl ?_
  refine f_callV (d' := d - 1) (bc' := 0) (bs' := 0) (as := [_, _]) hQ_ dL_law_1195 vf_L_185 (dd_ (by omega) (by decide)) ⟨Nat.zero_le _, Nat.zero_le _⟩ rfl rfl (Nat.le_of_ble_eq_true rfl) kl_7 rfl io_196 ?_
  refine r_due (g := xz_ xs (i + 1)) (c := xz_ xs (i + 2)) (by omega) M1 (xz_in xs _) (xz_in xs _) (fun h2 M2 f2 t2 => ?_)
  refine s_istore dL_law_1198 (by decide) rfl (L' := [(2, _), (2, _), (2, _), (2, _), (0, _), (0, _), (0, _)]) rfl ?_
  refine s_aload_n dL_law_1200 rfl ?_
  refine f_callV (d' := d - 1) (bc' := 0) (bs' := 0) (as := []) hQ_ dL_law_1201 vf_L_134 (dd_ (by omega) (by decide)) ⟨Nat.zero_le _, Nat.zero_le _⟩ rfl rfl (Nat.le_of_ble_eq_true rfl) kl_7 rfl io_196 ?_
  refine c_X9_thrown t2 ?_
  refine s_iload dL_law_1204 rfl ?_
  refine s_icmp_eqS (tgt := 1211) dL_law_1206 (by decide) ?_
  refine s_iload dL_law_1211 rfl ?_
  refine s_if_ne (tgt := 1228) dL_law_1213 (by decide) (k3_in ok_due) (fun ck => ?_) (fun ck => ?_)
  · refine s_goto (tgt := 2422) dL_law_1228 (by decide) ?_
    refine s_fg (L' := [(2, 1399), (2, 0), (2, 196), (2, 224), (0, i), (9, 0), (9, 0)]) ⟨Or.inr rfl, Or.inr rfl, Or.inr rfl, Or.inr rfl, Or.inr rfl, Or.inl rfl, Or.inl rfl, trivial⟩ ?_
    exact k _ _ ⟨cr_lo C1 M2.1 (fun x y a => f2 x y (Or.inl a)), b5_lo B1 (fun y => f2 195 y (Or.inl (by omega))), M2⟩
  · have e2 : h2 224 0 = i3_ (op_due z (xz_ xs (i + 1)) (xz_ xs (i + 2))).2.1 := (f2 224 0 (Or.inr (by omega))).trans (e1 ck)
    refine s_aload_n dL_law_1216 rfl ?_
    refine s_iconst dL_law_1217 ?_
    refine s_laload dL_law_1218 io_224 (by decide) (by decide) ?_
    rw [e2]
    refine s_iload dL_law_1219 rfl ?_
    refine s_i2lW dL_law_1221 ?_
    refine s_lcmp_eq (tgt := 1228) dL_law_1222 dL_law_1223 (by decide) (inI_L (i3_in _)) (inI_L (i3_in _)) (fun _ => ?_) (fun q => absurd rfl q)
    refine s_goto (tgt := 2422) dL_law_1228 (by decide) ?_
    refine s_fg (L' := [(2, 1399), (2, 0), (2, 196), (2, 224), (0, i), (9, 0), (9, 0)]) ⟨Or.inr rfl, Or.inr rfl, Or.inr rfl, Or.inr rfl, Or.inr rfl, Or.inl rfl, Or.inl rfl, trivial⟩ ?_
    exact k _ _ ⟨cr_lo C1 M2.1 (fun x y a => f2 x y (Or.inl a)), b5_lo B1 (fun y => f2 195 y (Or.inl (by omega))), M2⟩
set_option maxRecDepth 100000 in
set_option maxHeartbeats 4000000 in
theorem lc_gets (hl : len ≤ 3072) (i0 : 0 ≤ i) (i1 : i + 6 ≤ len) (hd : 17 ≤ d) (hbc : 700 ≤ bc) (hbs : 1400 ≤ bs) (I : LI_ h z) (k : ∀ h1 z1 : PH, LI_ h1 z1 → SE_ (EL_ b len xs) ML_law d (bc - 700) (bs - 1400) QL_ 2422 [(2, 1399), (2, 0), (2, 196), (2, 224), (0, i), (9, 0), (9, 0)] [] nN h1) : SE_ (EL_ b len xs) ML_law d bc bs QL_ 1231 [(2, 1399), (2, 0), (2, 196), (2, 224), (0, i), (9, 0), (9, 0)] [] nN h := by
  obtain ⟨C, B, M⟩ := I
  refine s_aload_n dL_law_1231 rfl ?_
  refine s_aload_n dL_law_1232 rfl ?_
  refine s_iload dL_law_1233 rfl ?_
  refine s_iconst dL_law_1235 ?_
  refine s_iadd dL_law_1236 ?_
  refine s_sld dL_law_1237 (by omega) (by omega) hl ?_
  refine s_aload_n dL_law_1238 rfl ?_
  refine s_iload dL_law_1239 rfl ?_
  refine s_iconst dL_law_1241 ?_
  refine s_iadd dL_law_1242 ?_
  refine s_sld dL_law_1243 (by omega) (by omega) hl ?_
  refine s_aload_n dL_law_1244 rfl ?_
  refine f_callSX (d' := d - 1) (bc' := 700) (bs' := 1400) (as := [_, _, _, _]) hQ_ dL_law_1245 sx_gets (dd_ (by omega) (by decide)) ⟨hbc, hbs⟩ rfl rfl (Nat.le_of_ble_eq_true rfl) ?_
  refine w_gets (g := xz_ xs (i + 1)) (c := xz_ xs (i + 2)) (by omega) (by omega) (by omega) C B (xz_in xs _) (xz_in xs _) (fun h1 C1 B1 f1 e1 => ?_)
  have M1 := mr_hi M C1.1 f1
  refine s_istore dL_law_1248 (by decide) rfl (L' := [(2, _), (2, _), (2, _), (2, _), (0, _), (0, _), (9, _)]) rfl ?_
  refine s_aload_n dL_law_1250 rfl ?_
  refine s_aload_n dL_law_1251 rfl ?_
  refine s_iload dL_law_1252 rfl ?_
  refine s_iconst dL_law_1254 ?_
  refine s_iadd dL_law_1255 ?_
  refine s_sld dL_law_1256 (by omega) (by omega) hl ?_
  refine s_aload_n dL_law_1257 rfl ?_
  refine s_iload dL_law_1258 rfl ?_
  refine s_iconst dL_law_1260 ?_
  refine s_iadd dL_law_1261 ?_
  refine s_sld dL_law_1262 (by omega) (by omega) hl ?_
  refine f_callV (d' := d - 1) (bc' := 0) (bs' := 0) (as := [_, _]) hQ_ dL_law_1263 vf_L_188 (dd_ (by omega) (by decide)) ⟨Nat.zero_le _, Nat.zero_le _⟩ rfl rfl (Nat.le_of_ble_eq_true rfl) kl_7 rfl io_196 ?_
  refine r_gets (g := xz_ xs (i + 1)) (c := xz_ xs (i + 2)) (by omega) M1 (xz_in xs _) (xz_in xs _) (fun h2 M2 f2 t2 => ?_)
  refine s_istore dL_law_1266 (by decide) rfl (L' := [(2, _), (2, _), (2, _), (2, _), (0, _), (0, _), (0, _)]) rfl ?_
  refine s_aload_n dL_law_1268 rfl ?_
  refine f_callV (d' := d - 1) (bc' := 0) (bs' := 0) (as := []) hQ_ dL_law_1269 vf_L_134 (dd_ (by omega) (by decide)) ⟨Nat.zero_le _, Nat.zero_le _⟩ rfl rfl (Nat.le_of_ble_eq_true rfl) kl_7 rfl io_196 ?_
  refine c_X9_thrown t2 ?_
  refine s_iload dL_law_1272 rfl ?_
  refine s_icmp_eqS (tgt := 1279) dL_law_1274 (by decide) ?_
  refine s_iload dL_law_1279 rfl ?_
  refine s_if_ne (tgt := 1296) dL_law_1281 (by decide) (k3_in ok_gets) (fun ck => ?_) (fun ck => ?_)
  · refine s_goto (tgt := 2422) dL_law_1296 (by decide) ?_
    refine s_fg (L' := [(2, 1399), (2, 0), (2, 196), (2, 224), (0, i), (9, 0), (9, 0)]) ⟨Or.inr rfl, Or.inr rfl, Or.inr rfl, Or.inr rfl, Or.inr rfl, Or.inl rfl, Or.inl rfl, trivial⟩ ?_
    exact k _ _ ⟨cr_lo C1 M2.1 (fun x y a => f2 x y (Or.inl a)), b5_lo B1 (fun y => f2 195 y (Or.inl (by omega))), M2⟩
  · have e2 : h2 224 0 = i3_ (op_gets z (xz_ xs (i + 1)) (xz_ xs (i + 2))).2.1 := (f2 224 0 (Or.inr (by omega))).trans (e1 ck)
    refine s_aload_n dL_law_1284 rfl ?_
    refine s_iconst dL_law_1285 ?_
    refine s_laload dL_law_1286 io_224 (by decide) (by decide) ?_
    rw [e2]
    refine s_iload dL_law_1287 rfl ?_
    refine s_i2lW dL_law_1289 ?_
    refine s_lcmp_eq (tgt := 1296) dL_law_1290 dL_law_1291 (by decide) (inI_L (i3_in _)) (inI_L (i3_in _)) (fun _ => ?_) (fun q => absurd rfl q)
    refine s_goto (tgt := 2422) dL_law_1296 (by decide) ?_
    refine s_fg (L' := [(2, 1399), (2, 0), (2, 196), (2, 224), (0, i), (9, 0), (9, 0)]) ⟨Or.inr rfl, Or.inr rfl, Or.inr rfl, Or.inr rfl, Or.inr rfl, Or.inl rfl, Or.inl rfl, trivial⟩ ?_
    exact k _ _ ⟨cr_lo C1 M2.1 (fun x y a => f2 x y (Or.inl a)), b5_lo B1 (fun y => f2 195 y (Or.inl (by omega))), M2⟩
set_option maxRecDepth 100000 in
set_option maxHeartbeats 4000000 in
theorem lc_classed (hl : len ≤ 3072) (i0 : 0 ≤ i) (i1 : i + 6 ≤ len) (hd : 17 ≤ d) (hbc : 700 ≤ bc) (hbs : 1400 ≤ bs) (I : LI_ h z) (k : ∀ h1 z1 : PH, LI_ h1 z1 → SE_ (EL_ b len xs) ML_law d (bc - 700) (bs - 1400) QL_ 2422 [(2, 1399), (2, 0), (2, 196), (2, 224), (0, i), (9, 0), (9, 0)] [] nN h1) : SE_ (EL_ b len xs) ML_law d bc bs QL_ 1299 [(2, 1399), (2, 0), (2, 196), (2, 224), (0, i), (9, 0), (9, 0)] [] nN h := by
  obtain ⟨C, B, M⟩ := I
  refine s_aload_n dL_law_1299 rfl ?_
  refine s_aload_n dL_law_1300 rfl ?_
  refine s_iload dL_law_1301 rfl ?_
  refine s_iconst dL_law_1303 ?_
  refine s_iadd dL_law_1304 ?_
  refine s_sld dL_law_1305 (by omega) (by omega) hl ?_
  refine s_aload_n dL_law_1306 rfl ?_
  refine s_iload dL_law_1307 rfl ?_
  refine s_iconst dL_law_1309 ?_
  refine s_iadd dL_law_1310 ?_
  refine s_sld dL_law_1311 (by omega) (by omega) hl ?_
  refine s_aload_n dL_law_1312 rfl ?_
  refine f_callSX (d' := d - 1) (bc' := 700) (bs' := 1400) (as := [_, _, _, _]) hQ_ dL_law_1313 sx_classed (dd_ (by omega) (by decide)) ⟨hbc, hbs⟩ rfl rfl (Nat.le_of_ble_eq_true rfl) ?_
  refine w_classed (c := xz_ xs (i + 1)) (v := xz_ xs (i + 2)) (by omega) (by omega) (by omega) C B (xz_in xs _) (xz_in xs _) (fun h1 C1 B1 f1 e1 => ?_)
  have M1 := mr_hi M C1.1 f1
  refine s_istore dL_law_1316 (by decide) rfl (L' := [(2, _), (2, _), (2, _), (2, _), (0, _), (0, _), (9, _)]) rfl ?_
  refine s_aload_n dL_law_1318 rfl ?_
  refine s_aload_n dL_law_1319 rfl ?_
  refine s_iload dL_law_1320 rfl ?_
  refine s_iconst dL_law_1322 ?_
  refine s_iadd dL_law_1323 ?_
  refine s_sld dL_law_1324 (by omega) (by omega) hl ?_
  refine s_aload_n dL_law_1325 rfl ?_
  refine s_iload dL_law_1326 rfl ?_
  refine s_iconst dL_law_1328 ?_
  refine s_iadd dL_law_1329 ?_
  refine s_sld dL_law_1330 (by omega) (by omega) hl ?_
  refine f_callV (d' := d - 1) (bc' := 0) (bs' := 0) (as := [_, _]) hQ_ dL_law_1331 vf_L_191 (dd_ (by omega) (by decide)) ⟨Nat.zero_le _, Nat.zero_le _⟩ rfl rfl (Nat.le_of_ble_eq_true rfl) kl_7 rfl io_196 ?_
  refine r_classed (c := xz_ xs (i + 1)) (v := xz_ xs (i + 2)) (by omega) M1 (xz_in xs _) (xz_in xs _) (fun h2 M2 f2 t2 => ?_)
  refine s_istore dL_law_1334 (by decide) rfl (L' := [(2, _), (2, _), (2, _), (2, _), (0, _), (0, _), (0, _)]) rfl ?_
  refine s_aload_n dL_law_1336 rfl ?_
  refine f_callV (d' := d - 1) (bc' := 0) (bs' := 0) (as := []) hQ_ dL_law_1337 vf_L_134 (dd_ (by omega) (by decide)) ⟨Nat.zero_le _, Nat.zero_le _⟩ rfl rfl (Nat.le_of_ble_eq_true rfl) kl_7 rfl io_196 ?_
  refine c_X9_thrown t2 ?_
  refine s_iload dL_law_1340 rfl ?_
  refine s_icmp_eqS (tgt := 1347) dL_law_1342 (by decide) ?_
  refine s_iload dL_law_1347 rfl ?_
  refine s_if_ne (tgt := 1364) dL_law_1349 (by decide) (k3_in ok_classed) (fun ck => ?_) (fun ck => ?_)
  · refine s_goto (tgt := 2422) dL_law_1364 (by decide) ?_
    refine s_fg (L' := [(2, 1399), (2, 0), (2, 196), (2, 224), (0, i), (9, 0), (9, 0)]) ⟨Or.inr rfl, Or.inr rfl, Or.inr rfl, Or.inr rfl, Or.inr rfl, Or.inl rfl, Or.inl rfl, trivial⟩ ?_
    exact k _ _ ⟨cr_lo C1 M2.1 (fun x y a => f2 x y (Or.inl a)), b5_lo B1 (fun y => f2 195 y (Or.inl (by omega))), M2⟩
  · have e2 : h2 224 0 = i3_ (op_classed z (xz_ xs (i + 1)) (xz_ xs (i + 2))).2.1 := (f2 224 0 (Or.inr (by omega))).trans (e1 ck)
    refine s_aload_n dL_law_1352 rfl ?_
    refine s_iconst dL_law_1353 ?_
    refine s_laload dL_law_1354 io_224 (by decide) (by decide) ?_
    rw [e2]
    refine s_iload dL_law_1355 rfl ?_
    refine s_i2lW dL_law_1357 ?_
    refine s_lcmp_eq (tgt := 1364) dL_law_1358 dL_law_1359 (by decide) (inI_L (i3_in _)) (inI_L (i3_in _)) (fun _ => ?_) (fun q => absurd rfl q)
    refine s_goto (tgt := 2422) dL_law_1364 (by decide) ?_
    refine s_fg (L' := [(2, 1399), (2, 0), (2, 196), (2, 224), (0, i), (9, 0), (9, 0)]) ⟨Or.inr rfl, Or.inr rfl, Or.inr rfl, Or.inr rfl, Or.inr rfl, Or.inl rfl, Or.inl rfl, trivial⟩ ?_
    exact k _ _ ⟨cr_lo C1 M2.1 (fun x y a => f2 x y (Or.inl a)), b5_lo B1 (fun y => f2 195 y (Or.inl (by omega))), M2⟩
set_option maxRecDepth 100000 in
set_option maxHeartbeats 4000000 in
theorem lc_itself (hl : len ≤ 3072) (i0 : 0 ≤ i) (i1 : i + 6 ≤ len) (hd : 17 ≤ d) (hbc : 700 ≤ bc) (hbs : 1400 ≤ bs) (I : LI_ h z) (k : ∀ h1 z1 : PH, LI_ h1 z1 → SE_ (EL_ b len xs) ML_law d (bc - 700) (bs - 1400) QL_ 2422 [(2, 1399), (2, 0), (2, 196), (2, 224), (0, i), (9, 0), (9, 0)] [] nN h1) : SE_ (EL_ b len xs) ML_law d bc bs QL_ 1367 [(2, 1399), (2, 0), (2, 196), (2, 224), (0, i), (9, 0), (9, 0)] [] nN h := by
  obtain ⟨C, B, M⟩ := I
  refine s_aload_n dL_law_1367 rfl ?_
  refine s_aload_n dL_law_1368 rfl ?_
  refine s_iload dL_law_1369 rfl ?_
  refine s_iconst dL_law_1371 ?_
  refine s_iadd dL_law_1372 ?_
  refine s_sld dL_law_1373 (by omega) (by omega) hl ?_
  refine s_aload_n dL_law_1374 rfl ?_
  refine f_callSX (d' := d - 1) (bc' := 700) (bs' := 1400) (as := [_, _, _]) hQ_ dL_law_1375 sx_itself (dd_ (by omega) (by decide)) ⟨hbc, hbs⟩ rfl rfl (Nat.le_of_ble_eq_true rfl) ?_
  refine w_itself (g := xz_ xs (i + 1)) (by omega) (by omega) (by omega) C B (xz_in xs _) (fun h1 C1 B1 f1 e1 => ?_)
  have M1 := mr_hi M C1.1 f1
  refine s_istore dL_law_1378 (by decide) rfl (L' := [(2, _), (2, _), (2, _), (2, _), (0, _), (0, _), (9, _)]) rfl ?_
  refine s_aload_n dL_law_1380 rfl ?_
  refine s_aload_n dL_law_1381 rfl ?_
  refine s_iload dL_law_1382 rfl ?_
  refine s_iconst dL_law_1384 ?_
  refine s_iadd dL_law_1385 ?_
  refine s_sld dL_law_1386 (by omega) (by omega) hl ?_
  refine f_callV (d' := d - 1) (bc' := 0) (bs' := 0) (as := [_]) hQ_ dL_law_1387 vf_L_194 (dd_ (by omega) (by decide)) ⟨Nat.zero_le _, Nat.zero_le _⟩ rfl rfl (Nat.le_of_ble_eq_true rfl) kl_7 rfl io_196 ?_
  refine r_itself (g := xz_ xs (i + 1)) (by omega) M1 (xz_in xs _) (fun h2 M2 f2 t2 => ?_)
  refine s_istore dL_law_1390 (by decide) rfl (L' := [(2, _), (2, _), (2, _), (2, _), (0, _), (0, _), (0, _)]) rfl ?_
  refine s_aload_n dL_law_1392 rfl ?_
  refine f_callV (d' := d - 1) (bc' := 0) (bs' := 0) (as := []) hQ_ dL_law_1393 vf_L_134 (dd_ (by omega) (by decide)) ⟨Nat.zero_le _, Nat.zero_le _⟩ rfl rfl (Nat.le_of_ble_eq_true rfl) kl_7 rfl io_196 ?_
  refine c_X9_thrown t2 ?_
  refine s_iload dL_law_1396 rfl ?_
  refine s_icmp_eqS (tgt := 1403) dL_law_1398 (by decide) ?_
  refine s_iload dL_law_1403 rfl ?_
  refine s_if_ne (tgt := 1427) dL_law_1405 (by decide) (k3_in ok_itself) (fun ck => ?_) (fun ck => ?_)
  · refine s_goto (tgt := 2422) dL_law_1427 (by decide) ?_
    refine s_fg (L' := [(2, 1399), (2, 0), (2, 196), (2, 224), (0, i), (9, 0), (9, 0)]) ⟨Or.inr rfl, Or.inr rfl, Or.inr rfl, Or.inr rfl, Or.inr rfl, Or.inl rfl, Or.inl rfl, trivial⟩ ?_
    exact k _ _ ⟨cr_lo C1 M2.1 (fun x y a => f2 x y (Or.inl a)), b5_lo B1 (fun y => f2 195 y (Or.inl (by omega))), M2⟩
  · have e2 : h2 224 0 = i3_ (op_itself z (xz_ xs (i + 1))).2.1 := (f2 224 0 (Or.inr (by omega))).trans (e1 ck)
    refine s_aload_n dL_law_1408 rfl ?_
    refine s_iconst dL_law_1409 ?_
    refine s_laload dL_law_1410 io_224 (by decide) (by decide) ?_
    refine s_iload dL_law_1411 rfl ?_
    have o1 := o01_itself (z := z) (g := xz_ xs (i + 1))
    refine s_if_eq (tgt := 1420) dL_law_1413 (by decide) ⟨by omega, by omega⟩ (fun c1 => ?_) (fun c1 => ?_)
    · rw [show h2 224 0 = 0 from e2.trans (by rw [c1]; decide)]
      refine s_lconstz (z := 0) dL_law_1420 rfl ?_
      refine s_lcmp_eq (tgt := 1427) dL_law_1421 dL_law_1422 (by decide) ⟨by decide, by decide⟩ ⟨by decide, by decide⟩ (fun _ => ?_) (fun q => absurd rfl q)
      refine s_goto (tgt := 2422) dL_law_1427 (by decide) ?_
      refine s_fg (L' := [(2, 1399), (2, 0), (2, 196), (2, 224), (0, i), (9, 0), (9, 0)]) ⟨Or.inr rfl, Or.inr rfl, Or.inr rfl, Or.inr rfl, Or.inr rfl, Or.inl rfl, Or.inl rfl, trivial⟩ ?_
      exact k _ _ ⟨cr_lo C1 M2.1 (fun x y a => f2 x y (Or.inl a)), b5_lo B1 (fun y => f2 195 y (Or.inl (by omega))), M2⟩
    · rw [show h2 224 0 = 1 from e2.trans (by rw [show (op_itself z (xz_ xs (i + 1))).2.1 = 1 by omega]; decide)]
      refine s_lconstz (z := 1) dL_law_1416 rfl ?_
      refine s_goto (tgt := 1421) dL_law_1417 (by decide) ?_
      refine s_lcmp_eq (tgt := 1427) dL_law_1421 dL_law_1422 (by decide) ⟨by decide, by decide⟩ ⟨by decide, by decide⟩ (fun _ => ?_) (fun q => absurd rfl q)
      refine s_goto (tgt := 2422) dL_law_1427 (by decide) ?_
      refine s_fg (L' := [(2, 1399), (2, 0), (2, 196), (2, 224), (0, i), (9, 0), (9, 0)]) ⟨Or.inr rfl, Or.inr rfl, Or.inr rfl, Or.inr rfl, Or.inr rfl, Or.inl rfl, Or.inl rfl, trivial⟩ ?_
      exact k _ _ ⟨cr_lo C1 M2.1 (fun x y a => f2 x y (Or.inl a)), b5_lo B1 (fun y => f2 195 y (Or.inl (by omega))), M2⟩
set_option maxRecDepth 100000 in
set_option maxHeartbeats 4000000 in
theorem lc_leastDebt (hl : len ≤ 3072) (i0 : 0 ≤ i) (i1 : i + 6 ≤ len) (hd : 17 ≤ d) (hbc : 700 ≤ bc) (hbs : 1400 ≤ bs) (I : LI_ h z) (k : ∀ h1 z1 : PH, LI_ h1 z1 → SE_ (EL_ b len xs) ML_law d (bc - 700) (bs - 1400) QL_ 2422 [(2, 1399), (2, 0), (2, 196), (2, 224), (0, i), (9, 0), (9, 0)] [] nN h1) : SE_ (EL_ b len xs) ML_law d bc bs QL_ 1430 [(2, 1399), (2, 0), (2, 196), (2, 224), (0, i), (9, 0), (9, 0)] [] nN h := by
  obtain ⟨C, B, M⟩ := I
  refine s_aload_n dL_law_1430 rfl ?_
  refine s_aload_n dL_law_1431 rfl ?_
  refine s_iload dL_law_1432 rfl ?_
  refine s_iconst dL_law_1434 ?_
  refine s_iadd dL_law_1435 ?_
  refine s_sld dL_law_1436 (by omega) (by omega) hl ?_
  refine s_aload_n dL_law_1437 rfl ?_
  refine f_callSX (d' := d - 1) (bc' := 700) (bs' := 1400) (as := [_, _, _]) hQ_ dL_law_1438 sx_leastDebt (dd_ (by omega) (by decide)) ⟨hbc, hbs⟩ rfl rfl (Nat.le_of_ble_eq_true rfl) ?_
  refine w_leastDebt (c := xz_ xs (i + 1)) (by omega) (by omega) (by omega) C B (xz_in xs _) (fun h1 C1 B1 f1 e1 => ?_)
  have M1 := mr_hi M C1.1 f1
  refine s_istore dL_law_1441 (by decide) rfl (L' := [(2, _), (2, _), (2, _), (2, _), (0, _), (0, _), (9, _)]) rfl ?_
  refine s_aload_n dL_law_1443 rfl ?_
  refine s_aload_n dL_law_1444 rfl ?_
  refine s_iload dL_law_1445 rfl ?_
  refine s_iconst dL_law_1447 ?_
  refine s_iadd dL_law_1448 ?_
  refine s_sld dL_law_1449 (by omega) (by omega) hl ?_
  refine f_callV (d' := d - 1) (bc' := 0) (bs' := 0) (as := [_]) hQ_ dL_law_1450 vf_L_197 (dd_ (by omega) (by decide)) ⟨Nat.zero_le _, Nat.zero_le _⟩ rfl rfl (Nat.le_of_ble_eq_true rfl) kl_7 rfl io_196 ?_
  refine r_leastDebt (c := xz_ xs (i + 1)) (by omega) M1 (xz_in xs _) (fun h2 M2 f2 t2 => ?_)
  refine s_istore dL_law_1453 (by decide) rfl (L' := [(2, _), (2, _), (2, _), (2, _), (0, _), (0, _), (0, _)]) rfl ?_
  refine s_aload_n dL_law_1455 rfl ?_
  refine f_callV (d' := d - 1) (bc' := 0) (bs' := 0) (as := []) hQ_ dL_law_1456 vf_L_134 (dd_ (by omega) (by decide)) ⟨Nat.zero_le _, Nat.zero_le _⟩ rfl rfl (Nat.le_of_ble_eq_true rfl) kl_7 rfl io_196 ?_
  refine c_X9_thrown t2 ?_
  refine s_iload dL_law_1459 rfl ?_
  refine s_icmp_eqS (tgt := 1466) dL_law_1461 (by decide) ?_
  refine s_iload dL_law_1466 rfl ?_
  refine s_if_ne (tgt := 1483) dL_law_1468 (by decide) (k3_in ok_leastDebt) (fun ck => ?_) (fun ck => ?_)
  · refine s_goto (tgt := 2422) dL_law_1483 (by decide) ?_
    refine s_fg (L' := [(2, 1399), (2, 0), (2, 196), (2, 224), (0, i), (9, 0), (9, 0)]) ⟨Or.inr rfl, Or.inr rfl, Or.inr rfl, Or.inr rfl, Or.inr rfl, Or.inl rfl, Or.inl rfl, trivial⟩ ?_
    exact k _ _ ⟨cr_lo C1 M2.1 (fun x y a => f2 x y (Or.inl a)), b5_lo B1 (fun y => f2 195 y (Or.inl (by omega))), M2⟩
  · have e2 : h2 224 0 = i3_ (op_leastDebt z (xz_ xs (i + 1))).2.1 := (f2 224 0 (Or.inr (by omega))).trans (e1 ck)
    refine s_aload_n dL_law_1471 rfl ?_
    refine s_iconst dL_law_1472 ?_
    refine s_laload dL_law_1473 io_224 (by decide) (by decide) ?_
    rw [e2]
    refine s_iload dL_law_1474 rfl ?_
    refine s_i2lW dL_law_1476 ?_
    refine s_lcmp_eq (tgt := 1483) dL_law_1477 dL_law_1478 (by decide) (inI_L (i3_in _)) (inI_L (i3_in _)) (fun _ => ?_) (fun q => absurd rfl q)
    refine s_goto (tgt := 2422) dL_law_1483 (by decide) ?_
    refine s_fg (L' := [(2, 1399), (2, 0), (2, 196), (2, 224), (0, i), (9, 0), (9, 0)]) ⟨Or.inr rfl, Or.inr rfl, Or.inr rfl, Or.inr rfl, Or.inr rfl, Or.inl rfl, Or.inl rfl, trivial⟩ ?_
    exact k _ _ ⟨cr_lo C1 M2.1 (fun x y a => f2 x y (Or.inl a)), b5_lo B1 (fun y => f2 195 y (Or.inl (by omega))), M2⟩
set_option maxRecDepth 100000 in
set_option maxHeartbeats 4000000 in
theorem lc_needed (hl : len ≤ 3072) (i0 : 0 ≤ i) (i1 : i + 6 ≤ len) (hd : 17 ≤ d) (hbc : 700 ≤ bc) (hbs : 1400 ≤ bs) (I : LI_ h z) (k : ∀ h1 z1 : PH, LI_ h1 z1 → SE_ (EL_ b len xs) ML_law d (bc - 700) (bs - 1400) QL_ 2422 [(2, 1399), (2, 0), (2, 196), (2, 224), (0, i), (9, 0), (9, 0)] [] nN h1) : SE_ (EL_ b len xs) ML_law d bc bs QL_ 1486 [(2, 1399), (2, 0), (2, 196), (2, 224), (0, i), (9, 0), (9, 0)] [] nN h := by
  obtain ⟨C, B, M⟩ := I
  refine s_aload_n dL_law_1486 rfl ?_
  refine s_aload_n dL_law_1487 rfl ?_
  refine s_iload dL_law_1488 rfl ?_
  refine s_iconst dL_law_1490 ?_
  refine s_iadd dL_law_1491 ?_
  refine s_sld dL_law_1492 (by omega) (by omega) hl ?_
  refine s_aload_n dL_law_1493 rfl ?_
  refine f_callSX (d' := d - 1) (bc' := 700) (bs' := 1400) (as := [_, _, _]) hQ_ dL_law_1494 sx_needed (dd_ (by omega) (by decide)) ⟨hbc, hbs⟩ rfl rfl (Nat.le_of_ble_eq_true rfl) ?_
  refine w_needed (c := xz_ xs (i + 1)) (by omega) (by omega) (by omega) C B (xz_in xs _) (fun h1 C1 B1 f1 e1 => ?_)
  have M1 := mr_hi M C1.1 f1
  refine s_istore dL_law_1497 (by decide) rfl (L' := [(2, _), (2, _), (2, _), (2, _), (0, _), (0, _), (9, _)]) rfl ?_
  refine s_aload_n dL_law_1499 rfl ?_
  refine s_aload_n dL_law_1500 rfl ?_
  refine s_iload dL_law_1501 rfl ?_
  refine s_iconst dL_law_1503 ?_
  refine s_iadd dL_law_1504 ?_
  refine s_sld dL_law_1505 (by omega) (by omega) hl ?_
  refine f_callV (d' := d - 1) (bc' := 0) (bs' := 0) (as := [_]) hQ_ dL_law_1506 vf_L_200 (dd_ (by omega) (by decide)) ⟨Nat.zero_le _, Nat.zero_le _⟩ rfl rfl (Nat.le_of_ble_eq_true rfl) kl_7 rfl io_196 ?_
  refine r_needed (c := xz_ xs (i + 1)) (by omega) M1 (xz_in xs _) (fun h2 M2 f2 t2 => ?_)
  refine s_istore dL_law_1509 (by decide) rfl (L' := [(2, _), (2, _), (2, _), (2, _), (0, _), (0, _), (0, _)]) rfl ?_
  refine s_aload_n dL_law_1511 rfl ?_
  refine f_callV (d' := d - 1) (bc' := 0) (bs' := 0) (as := []) hQ_ dL_law_1512 vf_L_134 (dd_ (by omega) (by decide)) ⟨Nat.zero_le _, Nat.zero_le _⟩ rfl rfl (Nat.le_of_ble_eq_true rfl) kl_7 rfl io_196 ?_
  refine c_X9_thrown t2 ?_
  refine s_iload dL_law_1515 rfl ?_
  refine s_icmp_eqS (tgt := 1522) dL_law_1517 (by decide) ?_
  refine s_iload dL_law_1522 rfl ?_
  refine s_if_ne (tgt := 1539) dL_law_1524 (by decide) (k3_in ok_needed) (fun ck => ?_) (fun ck => ?_)
  · refine s_goto (tgt := 2422) dL_law_1539 (by decide) ?_
    refine s_fg (L' := [(2, 1399), (2, 0), (2, 196), (2, 224), (0, i), (9, 0), (9, 0)]) ⟨Or.inr rfl, Or.inr rfl, Or.inr rfl, Or.inr rfl, Or.inr rfl, Or.inl rfl, Or.inl rfl, trivial⟩ ?_
    exact k _ _ ⟨cr_lo C1 M2.1 (fun x y a => f2 x y (Or.inl a)), b5_lo B1 (fun y => f2 195 y (Or.inl (by omega))), M2⟩
  · have e2 : h2 224 0 = i3_ (op_needed z (xz_ xs (i + 1))).2.1 := (f2 224 0 (Or.inr (by omega))).trans (e1 ck)
    refine s_aload_n dL_law_1527 rfl ?_
    refine s_iconst dL_law_1528 ?_
    refine s_laload dL_law_1529 io_224 (by decide) (by decide) ?_
    rw [e2]
    refine s_iload dL_law_1530 rfl ?_
    refine s_i2lW dL_law_1532 ?_
    refine s_lcmp_eq (tgt := 1539) dL_law_1533 dL_law_1534 (by decide) (inI_L (i3_in _)) (inI_L (i3_in _)) (fun _ => ?_) (fun q => absurd rfl q)
    refine s_goto (tgt := 2422) dL_law_1539 (by decide) ?_
    refine s_fg (L' := [(2, 1399), (2, 0), (2, 196), (2, 224), (0, i), (9, 0), (9, 0)]) ⟨Or.inr rfl, Or.inr rfl, Or.inr rfl, Or.inr rfl, Or.inr rfl, Or.inl rfl, Or.inl rfl, trivial⟩ ?_
    exact k _ _ ⟨cr_lo C1 M2.1 (fun x y a => f2 x y (Or.inl a)), b5_lo B1 (fun y => f2 195 y (Or.inl (by omega))), M2⟩
set_option maxRecDepth 100000 in
set_option maxHeartbeats 4000000 in
theorem lc_part (hl : len ≤ 3072) (i0 : 0 ≤ i) (i1 : i + 6 ≤ len) (hd : 17 ≤ d) (hbc : 700 ≤ bc) (hbs : 1400 ≤ bs) (I : LI_ h z) (k : ∀ h1 z1 : PH, LI_ h1 z1 → SE_ (EL_ b len xs) ML_law d (bc - 700) (bs - 1400) QL_ 2422 [(2, 1399), (2, 0), (2, 196), (2, 224), (0, i), (9, 0), (9, 0)] [] nN h1) : SE_ (EL_ b len xs) ML_law d bc bs QL_ 1542 [(2, 1399), (2, 0), (2, 196), (2, 224), (0, i), (9, 0), (9, 0)] [] nN h := by
  obtain ⟨C, B, M⟩ := I
  refine s_aload_n dL_law_1542 rfl ?_
  refine s_aload_n dL_law_1543 rfl ?_
  refine s_iload dL_law_1544 rfl ?_
  refine s_iconst dL_law_1546 ?_
  refine s_iadd dL_law_1547 ?_
  refine s_sld dL_law_1548 (by omega) (by omega) hl ?_
  refine s_aload_n dL_law_1549 rfl ?_
  refine f_callSX (d' := d - 1) (bc' := 700) (bs' := 1400) (as := [_, _, _]) hQ_ dL_law_1550 sx_part (dd_ (by omega) (by decide)) ⟨hbc, hbs⟩ rfl rfl (Nat.le_of_ble_eq_true rfl) ?_
  refine w_part (g := xz_ xs (i + 1)) (by omega) (by omega) (by omega) C B (xz_in xs _) (fun h1 C1 B1 f1 e1 => ?_)
  have M1 := mr_hi M C1.1 f1
  refine s_istore dL_law_1553 (by decide) rfl (L' := [(2, _), (2, _), (2, _), (2, _), (0, _), (0, _), (9, _)]) rfl ?_
  refine s_aload_n dL_law_1555 rfl ?_
  refine s_aload_n dL_law_1556 rfl ?_
  refine s_iload dL_law_1557 rfl ?_
  refine s_iconst dL_law_1559 ?_
  refine s_iadd dL_law_1560 ?_
  refine s_sld dL_law_1561 (by omega) (by omega) hl ?_
  refine f_callV (d' := d - 1) (bc' := 0) (bs' := 0) (as := [_]) hQ_ dL_law_1562 vf_L_203 (dd_ (by omega) (by decide)) ⟨Nat.zero_le _, Nat.zero_le _⟩ rfl rfl (Nat.le_of_ble_eq_true rfl) kl_7 rfl io_196 ?_
  refine r_part (g := xz_ xs (i + 1)) (by omega) M1 (xz_in xs _) (fun h2 M2 f2 t2 => ?_)
  refine s_istore dL_law_1565 (by decide) rfl (L' := [(2, _), (2, _), (2, _), (2, _), (0, _), (0, _), (0, _)]) rfl ?_
  refine s_aload_n dL_law_1567 rfl ?_
  refine f_callV (d' := d - 1) (bc' := 0) (bs' := 0) (as := []) hQ_ dL_law_1568 vf_L_134 (dd_ (by omega) (by decide)) ⟨Nat.zero_le _, Nat.zero_le _⟩ rfl rfl (Nat.le_of_ble_eq_true rfl) kl_7 rfl io_196 ?_
  refine c_X9_thrown t2 ?_
  refine s_iload dL_law_1571 rfl ?_
  refine s_icmp_eqS (tgt := 1578) dL_law_1573 (by decide) ?_
  refine s_iload dL_law_1578 rfl ?_
  refine s_if_ne (tgt := 1595) dL_law_1580 (by decide) (k3_in ok_part) (fun ck => ?_) (fun ck => ?_)
  · refine s_goto (tgt := 2422) dL_law_1595 (by decide) ?_
    refine s_fg (L' := [(2, 1399), (2, 0), (2, 196), (2, 224), (0, i), (9, 0), (9, 0)]) ⟨Or.inr rfl, Or.inr rfl, Or.inr rfl, Or.inr rfl, Or.inr rfl, Or.inl rfl, Or.inl rfl, trivial⟩ ?_
    exact k _ _ ⟨cr_lo C1 M2.1 (fun x y a => f2 x y (Or.inl a)), b5_lo B1 (fun y => f2 195 y (Or.inl (by omega))), M2⟩
  · have e2 : h2 224 0 = i3_ (op_part z (xz_ xs (i + 1))).2.1 := (f2 224 0 (Or.inr (by omega))).trans (e1 ck)
    refine s_aload_n dL_law_1583 rfl ?_
    refine s_iconst dL_law_1584 ?_
    refine s_laload dL_law_1585 io_224 (by decide) (by decide) ?_
    rw [e2]
    refine s_iload dL_law_1586 rfl ?_
    refine s_i2lW dL_law_1588 ?_
    refine s_lcmp_eq (tgt := 1595) dL_law_1589 dL_law_1590 (by decide) (inI_L (i3_in _)) (inI_L (i3_in _)) (fun _ => ?_) (fun q => absurd rfl q)
    refine s_goto (tgt := 2422) dL_law_1595 (by decide) ?_
    refine s_fg (L' := [(2, 1399), (2, 0), (2, 196), (2, 224), (0, i), (9, 0), (9, 0)]) ⟨Or.inr rfl, Or.inr rfl, Or.inr rfl, Or.inr rfl, Or.inr rfl, Or.inl rfl, Or.inl rfl, trivial⟩ ?_
    exact k _ _ ⟨cr_lo C1 M2.1 (fun x y a => f2 x y (Or.inl a)), b5_lo B1 (fun y => f2 195 y (Or.inl (by omega))), M2⟩
set_option maxRecDepth 100000 in
set_option maxHeartbeats 4000000 in
theorem lc_left (hl : len ≤ 3072) (i0 : 0 ≤ i) (i1 : i + 6 ≤ len) (hd : 17 ≤ d) (hbc : 700 ≤ bc) (hbs : 1400 ≤ bs) (I : LI_ h z) (k : ∀ h1 z1 : PH, LI_ h1 z1 → SE_ (EL_ b len xs) ML_law d (bc - 700) (bs - 1400) QL_ 2422 [(2, 1399), (2, 0), (2, 196), (2, 224), (0, i), (9, 0), (9, 0)] [] nN h1) : SE_ (EL_ b len xs) ML_law d bc bs QL_ 1598 [(2, 1399), (2, 0), (2, 196), (2, 224), (0, i), (9, 0), (9, 0)] [] nN h := by
  obtain ⟨C, B, M⟩ := I
  refine s_aload_n dL_law_1598 rfl ?_
  refine s_aload_n dL_law_1599 rfl ?_
  refine s_iload dL_law_1600 rfl ?_
  refine s_iconst dL_law_1602 ?_
  refine s_iadd dL_law_1603 ?_
  refine s_sld dL_law_1604 (by omega) (by omega) hl ?_
  refine s_aload_n dL_law_1605 rfl ?_
  refine f_callSX (d' := d - 1) (bc' := 700) (bs' := 1400) (as := [_, _, _]) hQ_ dL_law_1606 sx_left (dd_ (by omega) (by decide)) ⟨hbc, hbs⟩ rfl rfl (Nat.le_of_ble_eq_true rfl) ?_
  refine w_left (t := xz_ xs (i + 1)) (by omega) (by omega) (by omega) C B (xz_in xs _) (fun h1 C1 B1 f1 e1 => ?_)
  have M1 := mr_hi M C1.1 f1
  refine s_istore dL_law_1609 (by decide) rfl (L' := [(2, _), (2, _), (2, _), (2, _), (0, _), (0, _), (9, _)]) rfl ?_
  refine s_aload_n dL_law_1611 rfl ?_
  refine s_aload_n dL_law_1612 rfl ?_
  refine s_iload dL_law_1613 rfl ?_
  refine s_iconst dL_law_1615 ?_
  refine s_iadd dL_law_1616 ?_
  refine s_sld dL_law_1617 (by omega) (by omega) hl ?_
  refine f_callV (d' := d - 1) (bc' := 0) (bs' := 0) (as := [_]) hQ_ dL_law_1618 vf_L_206 (dd_ (by omega) (by decide)) ⟨Nat.zero_le _, Nat.zero_le _⟩ rfl rfl (Nat.le_of_ble_eq_true rfl) kl_7 rfl io_196 ?_
  refine r_left (t := xz_ xs (i + 1)) (by omega) M1 (xz_in xs _) (fun h2 M2 f2 t2 => ?_)
  refine s_istore dL_law_1621 (by decide) rfl (L' := [(2, _), (2, _), (2, _), (2, _), (0, _), (0, _), (0, _)]) rfl ?_
  refine s_aload_n dL_law_1623 rfl ?_
  refine f_callV (d' := d - 1) (bc' := 0) (bs' := 0) (as := []) hQ_ dL_law_1624 vf_L_134 (dd_ (by omega) (by decide)) ⟨Nat.zero_le _, Nat.zero_le _⟩ rfl rfl (Nat.le_of_ble_eq_true rfl) kl_7 rfl io_196 ?_
  refine c_X9_thrown t2 ?_
  refine s_iload dL_law_1627 rfl ?_
  refine s_icmp_eqS (tgt := 1634) dL_law_1629 (by decide) ?_
  refine s_iload dL_law_1634 rfl ?_
  refine s_if_ne (tgt := 1651) dL_law_1636 (by decide) (k3_in ok_left) (fun ck => ?_) (fun ck => ?_)
  · refine s_goto (tgt := 2422) dL_law_1651 (by decide) ?_
    refine s_fg (L' := [(2, 1399), (2, 0), (2, 196), (2, 224), (0, i), (9, 0), (9, 0)]) ⟨Or.inr rfl, Or.inr rfl, Or.inr rfl, Or.inr rfl, Or.inr rfl, Or.inl rfl, Or.inl rfl, trivial⟩ ?_
    exact k _ _ ⟨cr_lo C1 M2.1 (fun x y a => f2 x y (Or.inl a)), b5_lo B1 (fun y => f2 195 y (Or.inl (by omega))), M2⟩
  · have e2 : h2 224 0 = i3_ (op_left z (xz_ xs (i + 1))).2.1 := (f2 224 0 (Or.inr (by omega))).trans (e1 ck)
    refine s_aload_n dL_law_1639 rfl ?_
    refine s_iconst dL_law_1640 ?_
    refine s_laload dL_law_1641 io_224 (by decide) (by decide) ?_
    rw [e2]
    refine s_iload dL_law_1642 rfl ?_
    refine s_i2lW dL_law_1644 ?_
    refine s_lcmp_eq (tgt := 1651) dL_law_1645 dL_law_1646 (by decide) (inI_L (i3_in _)) (inI_L (i3_in _)) (fun _ => ?_) (fun q => absurd rfl q)
    refine s_goto (tgt := 2422) dL_law_1651 (by decide) ?_
    refine s_fg (L' := [(2, 1399), (2, 0), (2, 196), (2, 224), (0, i), (9, 0), (9, 0)]) ⟨Or.inr rfl, Or.inr rfl, Or.inr rfl, Or.inr rfl, Or.inr rfl, Or.inl rfl, Or.inl rfl, trivial⟩ ?_
    exact k _ _ ⟨cr_lo C1 M2.1 (fun x y a => f2 x y (Or.inl a)), b5_lo B1 (fun y => f2 195 y (Or.inl (by omega))), M2⟩
set_option maxRecDepth 100000 in
set_option maxHeartbeats 4000000 in
theorem lc_takes (hl : len ≤ 3072) (i0 : 0 ≤ i) (i1 : i + 6 ≤ len) (hd : 17 ≤ d) (hbc : 700 ≤ bc) (hbs : 1400 ≤ bs) (I : LI_ h z) (k : ∀ h1 z1 : PH, LI_ h1 z1 → SE_ (EL_ b len xs) ML_law d (bc - 700) (bs - 1400) QL_ 2422 [(2, 1399), (2, 0), (2, 196), (2, 224), (0, i), (9, 0), (9, 0)] [] nN h1) : SE_ (EL_ b len xs) ML_law d bc bs QL_ 1654 [(2, 1399), (2, 0), (2, 196), (2, 224), (0, i), (9, 0), (9, 0)] [] nN h := by
  obtain ⟨C, B, M⟩ := I
  refine s_aload_n dL_law_1654 rfl ?_
  refine s_aload_n dL_law_1655 rfl ?_
  refine s_iload dL_law_1656 rfl ?_
  refine s_iconst dL_law_1658 ?_
  refine s_iadd dL_law_1659 ?_
  refine s_sld dL_law_1660 (by omega) (by omega) hl ?_
  refine s_aload_n dL_law_1661 rfl ?_
  refine s_iload dL_law_1662 rfl ?_
  refine s_iconst dL_law_1664 ?_
  refine s_iadd dL_law_1665 ?_
  refine s_sld dL_law_1666 (by omega) (by omega) hl ?_
  refine s_aload_n dL_law_1667 rfl ?_
  refine f_callSX (d' := d - 1) (bc' := 700) (bs' := 1400) (as := [_, _, _, _]) hQ_ dL_law_1668 sx_takes (dd_ (by omega) (by decide)) ⟨hbc, hbs⟩ rfl rfl (Nat.le_of_ble_eq_true rfl) ?_
  refine w_takes (g := xz_ xs (i + 1)) (p := xz_ xs (i + 2)) (by omega) (by omega) (by omega) C B (xz_in xs _) (xz_in xs _) (fun h1 C1 B1 f1 e1 => ?_)
  have M1 := mr_hi M C1.1 f1
  refine s_istore dL_law_1671 (by decide) rfl (L' := [(2, _), (2, _), (2, _), (2, _), (0, _), (0, _), (9, _)]) rfl ?_
  refine s_aload_n dL_law_1673 rfl ?_
  refine s_aload_n dL_law_1674 rfl ?_
  refine s_iload dL_law_1675 rfl ?_
  refine s_iconst dL_law_1677 ?_
  refine s_iadd dL_law_1678 ?_
  refine s_sld dL_law_1679 (by omega) (by omega) hl ?_
  refine s_aload_n dL_law_1680 rfl ?_
  refine s_iload dL_law_1681 rfl ?_
  refine s_iconst dL_law_1683 ?_
  refine s_iadd dL_law_1684 ?_
  refine s_sld dL_law_1685 (by omega) (by omega) hl ?_
  refine f_callV (d' := d - 1) (bc' := 0) (bs' := 0) (as := [_, _]) hQ_ dL_law_1686 vf_L_209 (dd_ (by omega) (by decide)) ⟨Nat.zero_le _, Nat.zero_le _⟩ rfl rfl (Nat.le_of_ble_eq_true rfl) kl_7 rfl io_196 ?_
  refine r_takes (g := xz_ xs (i + 1)) (p := xz_ xs (i + 2)) (by omega) M1 (xz_in xs _) (xz_in xs _) (fun h2 M2 f2 t2 => ?_)
  refine s_istore dL_law_1689 (by decide) rfl (L' := [(2, _), (2, _), (2, _), (2, _), (0, _), (0, _), (0, _)]) rfl ?_
  refine s_aload_n dL_law_1691 rfl ?_
  refine f_callV (d' := d - 1) (bc' := 0) (bs' := 0) (as := []) hQ_ dL_law_1692 vf_L_134 (dd_ (by omega) (by decide)) ⟨Nat.zero_le _, Nat.zero_le _⟩ rfl rfl (Nat.le_of_ble_eq_true rfl) kl_7 rfl io_196 ?_
  refine c_X9_thrown t2 ?_
  refine s_iload dL_law_1695 rfl ?_
  refine s_icmp_eqS (tgt := 1702) dL_law_1697 (by decide) ?_
  refine s_iload dL_law_1702 rfl ?_
  refine s_if_ne (tgt := 1719) dL_law_1704 (by decide) (k3_in ok_takes) (fun ck => ?_) (fun ck => ?_)
  · refine s_goto (tgt := 2422) dL_law_1719 (by decide) ?_
    refine s_fg (L' := [(2, 1399), (2, 0), (2, 196), (2, 224), (0, i), (9, 0), (9, 0)]) ⟨Or.inr rfl, Or.inr rfl, Or.inr rfl, Or.inr rfl, Or.inr rfl, Or.inl rfl, Or.inl rfl, trivial⟩ ?_
    exact k _ _ ⟨cr_lo C1 M2.1 (fun x y a => f2 x y (Or.inl a)), b5_lo B1 (fun y => f2 195 y (Or.inl (by omega))), M2⟩
  · have e2 : h2 224 0 = i3_ (op_takes z (xz_ xs (i + 1)) (xz_ xs (i + 2))).2.1 := (f2 224 0 (Or.inr (by omega))).trans (e1 ck)
    refine s_aload_n dL_law_1707 rfl ?_
    refine s_iconst dL_law_1708 ?_
    refine s_laload dL_law_1709 io_224 (by decide) (by decide) ?_
    rw [e2]
    refine s_iload dL_law_1710 rfl ?_
    refine s_i2lW dL_law_1712 ?_
    refine s_lcmp_eq (tgt := 1719) dL_law_1713 dL_law_1714 (by decide) (inI_L (i3_in _)) (inI_L (i3_in _)) (fun _ => ?_) (fun q => absurd rfl q)
    refine s_goto (tgt := 2422) dL_law_1719 (by decide) ?_
    refine s_fg (L' := [(2, 1399), (2, 0), (2, 196), (2, 224), (0, i), (9, 0), (9, 0)]) ⟨Or.inr rfl, Or.inr rfl, Or.inr rfl, Or.inr rfl, Or.inr rfl, Or.inl rfl, Or.inl rfl, trivial⟩ ?_
    exact k _ _ ⟨cr_lo C1 M2.1 (fun x y a => f2 x y (Or.inl a)), b5_lo B1 (fun y => f2 195 y (Or.inl (by omega))), M2⟩
set_option maxRecDepth 100000 in
set_option maxHeartbeats 4000000 in
theorem lc_taken (hl : len ≤ 3072) (i0 : 0 ≤ i) (i1 : i + 6 ≤ len) (hd : 17 ≤ d) (hbc : 700 ≤ bc) (hbs : 1400 ≤ bs) (I : LI_ h z) (k : ∀ h1 z1 : PH, LI_ h1 z1 → SE_ (EL_ b len xs) ML_law d (bc - 700) (bs - 1400) QL_ 2422 [(2, 1399), (2, 0), (2, 196), (2, 224), (0, i), (9, 0), (9, 0)] [] nN h1) : SE_ (EL_ b len xs) ML_law d bc bs QL_ 1722 [(2, 1399), (2, 0), (2, 196), (2, 224), (0, i), (9, 0), (9, 0)] [] nN h := by
  obtain ⟨C, B, M⟩ := I
  refine s_aload_n dL_law_1722 rfl ?_
  refine s_aload_n dL_law_1723 rfl ?_
  refine s_iload dL_law_1724 rfl ?_
  refine s_iconst dL_law_1726 ?_
  refine s_iadd dL_law_1727 ?_
  refine s_sld dL_law_1728 (by omega) (by omega) hl ?_
  refine s_aload_n dL_law_1729 rfl ?_
  refine s_iload dL_law_1730 rfl ?_
  refine s_iconst dL_law_1732 ?_
  refine s_iadd dL_law_1733 ?_
  refine s_sld dL_law_1734 (by omega) (by omega) hl ?_
  refine s_aload_n dL_law_1735 rfl ?_
  refine f_callSX (d' := d - 1) (bc' := 700) (bs' := 1400) (as := [_, _, _, _]) hQ_ dL_law_1736 sx_taken (dd_ (by omega) (by decide)) ⟨hbc, hbs⟩ rfl rfl (Nat.le_of_ble_eq_true rfl) ?_
  refine w_taken (p := xz_ xs (i + 1)) (v := xz_ xs (i + 2)) (by omega) (by omega) (by omega) C B (xz_in xs _) (xz_in xs _) (fun h1 C1 B1 f1 e1 => ?_)
  have M1 := mr_hi M C1.1 f1
  refine s_istore dL_law_1739 (by decide) rfl (L' := [(2, _), (2, _), (2, _), (2, _), (0, _), (0, _), (9, _)]) rfl ?_
  refine s_aload_n dL_law_1741 rfl ?_
  refine s_aload_n dL_law_1742 rfl ?_
  refine s_iload dL_law_1743 rfl ?_
  refine s_iconst dL_law_1745 ?_
  refine s_iadd dL_law_1746 ?_
  refine s_sld dL_law_1747 (by omega) (by omega) hl ?_
  refine s_aload_n dL_law_1748 rfl ?_
  refine s_iload dL_law_1749 rfl ?_
  refine s_iconst dL_law_1751 ?_
  refine s_iadd dL_law_1752 ?_
  refine s_sld dL_law_1753 (by omega) (by omega) hl ?_
  refine f_callV (d' := d - 1) (bc' := 0) (bs' := 0) (as := [_, _]) hQ_ dL_law_1754 vf_L_212 (dd_ (by omega) (by decide)) ⟨Nat.zero_le _, Nat.zero_le _⟩ rfl rfl (Nat.le_of_ble_eq_true rfl) kl_7 rfl io_196 ?_
  refine r_taken (p := xz_ xs (i + 1)) (v := xz_ xs (i + 2)) (by omega) M1 (xz_in xs _) (xz_in xs _) (fun h2 M2 f2 t2 => ?_)
  refine s_istore dL_law_1757 (by decide) rfl (L' := [(2, _), (2, _), (2, _), (2, _), (0, _), (0, _), (0, _)]) rfl ?_
  refine s_aload_n dL_law_1759 rfl ?_
  refine f_callV (d' := d - 1) (bc' := 0) (bs' := 0) (as := []) hQ_ dL_law_1760 vf_L_134 (dd_ (by omega) (by decide)) ⟨Nat.zero_le _, Nat.zero_le _⟩ rfl rfl (Nat.le_of_ble_eq_true rfl) kl_7 rfl io_196 ?_
  refine c_X9_thrown t2 ?_
  refine s_iload dL_law_1763 rfl ?_
  refine s_icmp_eqS (tgt := 1770) dL_law_1765 (by decide) ?_
  refine s_iload dL_law_1770 rfl ?_
  refine s_if_ne (tgt := 1787) dL_law_1772 (by decide) (k3_in ok_taken) (fun ck => ?_) (fun ck => ?_)
  · refine s_goto (tgt := 2422) dL_law_1787 (by decide) ?_
    refine s_fg (L' := [(2, 1399), (2, 0), (2, 196), (2, 224), (0, i), (9, 0), (9, 0)]) ⟨Or.inr rfl, Or.inr rfl, Or.inr rfl, Or.inr rfl, Or.inr rfl, Or.inl rfl, Or.inl rfl, trivial⟩ ?_
    exact k _ _ ⟨cr_lo C1 M2.1 (fun x y a => f2 x y (Or.inl a)), b5_lo B1 (fun y => f2 195 y (Or.inl (by omega))), M2⟩
  · have e2 : h2 224 0 = i3_ (op_taken z (xz_ xs (i + 1)) (xz_ xs (i + 2))).2.1 := (f2 224 0 (Or.inr (by omega))).trans (e1 ck)
    refine s_aload_n dL_law_1775 rfl ?_
    refine s_iconst dL_law_1776 ?_
    refine s_laload dL_law_1777 io_224 (by decide) (by decide) ?_
    rw [e2]
    refine s_iload dL_law_1778 rfl ?_
    refine s_i2lW dL_law_1780 ?_
    refine s_lcmp_eq (tgt := 1787) dL_law_1781 dL_law_1782 (by decide) (inI_L (i3_in _)) (inI_L (i3_in _)) (fun _ => ?_) (fun q => absurd rfl q)
    refine s_goto (tgt := 2422) dL_law_1787 (by decide) ?_
    refine s_fg (L' := [(2, 1399), (2, 0), (2, 196), (2, 224), (0, i), (9, 0), (9, 0)]) ⟨Or.inr rfl, Or.inr rfl, Or.inr rfl, Or.inr rfl, Or.inr rfl, Or.inl rfl, Or.inl rfl, trivial⟩ ?_
    exact k _ _ ⟨cr_lo C1 M2.1 (fun x y a => f2 x y (Or.inl a)), b5_lo B1 (fun y => f2 195 y (Or.inl (by omega))), M2⟩
set_option maxRecDepth 100000 in
set_option maxHeartbeats 4000000 in
theorem lc_stock (hl : len ≤ 3072) (i0 : 0 ≤ i) (i1 : i + 6 ≤ len) (hd : 17 ≤ d) (hbc : 700 ≤ bc) (hbs : 1400 ≤ bs) (I : LI_ h z) (k : ∀ h1 z1 : PH, LI_ h1 z1 → SE_ (EL_ b len xs) ML_law d (bc - 700) (bs - 1400) QL_ 2422 [(2, 1399), (2, 0), (2, 196), (2, 224), (0, i), (9, 0), (9, 0)] [] nN h1) : SE_ (EL_ b len xs) ML_law d bc bs QL_ 1790 [(2, 1399), (2, 0), (2, 196), (2, 224), (0, i), (9, 0), (9, 0)] [] nN h := by
  obtain ⟨C, B, M⟩ := I
  refine s_aload_n dL_law_1790 rfl ?_
  refine s_aload_n dL_law_1791 rfl ?_
  refine s_iload dL_law_1792 rfl ?_
  refine s_iconst dL_law_1794 ?_
  refine s_iadd dL_law_1795 ?_
  refine s_sld dL_law_1796 (by omega) (by omega) hl ?_
  refine s_aload_n dL_law_1797 rfl ?_
  refine s_iload dL_law_1798 rfl ?_
  refine s_iconst dL_law_1800 ?_
  refine s_iadd dL_law_1801 ?_
  refine s_sld dL_law_1802 (by omega) (by omega) hl ?_
  refine s_aload_n dL_law_1803 rfl ?_
  refine f_callSX (d' := d - 1) (bc' := 700) (bs' := 1400) (as := [_, _, _, _]) hQ_ dL_law_1804 sx_stock (dd_ (by omega) (by decide)) ⟨hbc, hbs⟩ rfl rfl (Nat.le_of_ble_eq_true rfl) ?_
  refine w_stock (x := xz_ xs (i + 1)) (v := xz_ xs (i + 2)) (by omega) (by omega) (by omega) C B (xz_in xs _) (xz_in xs _) (fun h1 C1 B1 f1 e1 => ?_)
  have M1 := mr_hi M C1.1 f1
  refine s_istore dL_law_1807 (by decide) rfl (L' := [(2, _), (2, _), (2, _), (2, _), (0, _), (0, _), (9, _)]) rfl ?_
  refine s_aload_n dL_law_1809 rfl ?_
  refine s_aload_n dL_law_1810 rfl ?_
  refine s_iload dL_law_1811 rfl ?_
  refine s_iconst dL_law_1813 ?_
  refine s_iadd dL_law_1814 ?_
  refine s_sld dL_law_1815 (by omega) (by omega) hl ?_
  refine s_aload_n dL_law_1816 rfl ?_
  refine s_iload dL_law_1817 rfl ?_
  refine s_iconst dL_law_1819 ?_
  refine s_iadd dL_law_1820 ?_
  refine s_sld dL_law_1821 (by omega) (by omega) hl ?_
  refine f_callV (d' := d - 1) (bc' := 0) (bs' := 0) (as := [_, _]) hQ_ dL_law_1822 vf_L_215 (dd_ (by omega) (by decide)) ⟨Nat.zero_le _, Nat.zero_le _⟩ rfl rfl (Nat.le_of_ble_eq_true rfl) kl_7 rfl io_196 ?_
  refine r_stock (x := xz_ xs (i + 1)) (v := xz_ xs (i + 2)) (by omega) M1 (xz_in xs _) (xz_in xs _) (fun h2 M2 f2 t2 => ?_)
  refine s_istore dL_law_1825 (by decide) rfl (L' := [(2, _), (2, _), (2, _), (2, _), (0, _), (0, _), (0, _)]) rfl ?_
  refine s_aload_n dL_law_1827 rfl ?_
  refine f_callV (d' := d - 1) (bc' := 0) (bs' := 0) (as := []) hQ_ dL_law_1828 vf_L_134 (dd_ (by omega) (by decide)) ⟨Nat.zero_le _, Nat.zero_le _⟩ rfl rfl (Nat.le_of_ble_eq_true rfl) kl_7 rfl io_196 ?_
  refine c_X9_thrown t2 ?_
  refine s_iload dL_law_1831 rfl ?_
  refine s_icmp_eqS (tgt := 1838) dL_law_1833 (by decide) ?_
  refine s_iload dL_law_1838 rfl ?_
  refine s_if_ne (tgt := 1855) dL_law_1840 (by decide) (k3_in ok_stock) (fun ck => ?_) (fun ck => ?_)
  · refine s_goto (tgt := 2422) dL_law_1855 (by decide) ?_
    refine s_fg (L' := [(2, 1399), (2, 0), (2, 196), (2, 224), (0, i), (9, 0), (9, 0)]) ⟨Or.inr rfl, Or.inr rfl, Or.inr rfl, Or.inr rfl, Or.inr rfl, Or.inl rfl, Or.inl rfl, trivial⟩ ?_
    exact k _ _ ⟨cr_lo C1 M2.1 (fun x y a => f2 x y (Or.inl a)), b5_lo B1 (fun y => f2 195 y (Or.inl (by omega))), M2⟩
  · have e2 : h2 224 0 = i3_ (op_stock z (xz_ xs (i + 1)) (xz_ xs (i + 2))).2.1 := (f2 224 0 (Or.inr (by omega))).trans (e1 ck)
    refine s_aload_n dL_law_1843 rfl ?_
    refine s_iconst dL_law_1844 ?_
    refine s_laload dL_law_1845 io_224 (by decide) (by decide) ?_
    rw [e2]
    refine s_iload dL_law_1846 rfl ?_
    refine s_i2lW dL_law_1848 ?_
    refine s_lcmp_eq (tgt := 1855) dL_law_1849 dL_law_1850 (by decide) (inI_L (i3_in _)) (inI_L (i3_in _)) (fun _ => ?_) (fun q => absurd rfl q)
    refine s_goto (tgt := 2422) dL_law_1855 (by decide) ?_
    refine s_fg (L' := [(2, 1399), (2, 0), (2, 196), (2, 224), (0, i), (9, 0), (9, 0)]) ⟨Or.inr rfl, Or.inr rfl, Or.inr rfl, Or.inr rfl, Or.inr rfl, Or.inl rfl, Or.inl rfl, trivial⟩ ?_
    exact k _ _ ⟨cr_lo C1 M2.1 (fun x y a => f2 x y (Or.inl a)), b5_lo B1 (fun y => f2 195 y (Or.inl (by omega))), M2⟩
set_option maxRecDepth 100000 in
set_option maxHeartbeats 4000000 in
theorem lc_heir (hl : len ≤ 3072) (i0 : 0 ≤ i) (i1 : i + 6 ≤ len) (hd : 17 ≤ d) (hbc : 700 ≤ bc) (hbs : 1400 ≤ bs) (I : LI_ h z) (k : ∀ h1 z1 : PH, LI_ h1 z1 → SE_ (EL_ b len xs) ML_law d (bc - 700) (bs - 1400) QL_ 2422 [(2, 1399), (2, 0), (2, 196), (2, 224), (0, i), (9, 0), (9, 0)] [] nN h1) : SE_ (EL_ b len xs) ML_law d bc bs QL_ 1858 [(2, 1399), (2, 0), (2, 196), (2, 224), (0, i), (9, 0), (9, 0)] [] nN h := by
  obtain ⟨C, B, M⟩ := I
  refine s_aload_n dL_law_1858 rfl ?_
  refine s_aload_n dL_law_1859 rfl ?_
  refine s_iload dL_law_1860 rfl ?_
  refine s_iconst dL_law_1862 ?_
  refine s_iadd dL_law_1863 ?_
  refine s_sld dL_law_1864 (by omega) (by omega) hl ?_
  refine f_callV (d' := d - 1) (bc' := 700) (bs' := 1400) (as := [_]) hQ_ dL_law_1865 vf_L_216 (dd_ (by omega) (by decide)) ⟨hbc, hbs⟩ rfl rfl (Nat.le_of_ble_eq_true rfl) kl_6 rfl io_0 ?_
  refine v_heir (v := xz_ xs (i + 1)) (by omega) (by omega) (by omega) C B (xz_in xs _) (fun h1 C1 B1 f1 => ?_)
  have M1 := mr_hi M C1.1 f1
  refine s_aload_n dL_law_1868 rfl ?_
  refine s_aload_n dL_law_1869 rfl ?_
  refine s_iload dL_law_1870 rfl ?_
  refine s_iconst dL_law_1872 ?_
  refine s_iadd dL_law_1873 ?_
  refine s_sld dL_law_1874 (by omega) (by omega) hl ?_
  refine f_callV (d' := d - 1) (bc' := 0) (bs' := 0) (as := [_]) hQ_ dL_law_1875 vf_L_219 (dd_ (by omega) (by decide)) ⟨Nat.zero_le _, Nat.zero_le _⟩ rfl rfl (Nat.le_of_ble_eq_true rfl) kl_7 rfl io_196 ?_
  refine r_heir (v := xz_ xs (i + 1)) (by omega) M1 (xz_in xs _) (fun h2 M2 f2 t2 => ?_)
  refine s_icmp_eqS (tgt := 2422) dL_law_1878 (by decide) ?_
  exact k _ _ ⟨cr_lo C1 M2.1 (fun x y a => f2 x y (Or.inl a)), b5_lo B1 (fun y => f2 195 y (Or.inl (by omega))), M2⟩
set_option maxRecDepth 100000 in
set_option maxHeartbeats 4000000 in
theorem lc_ranked (hl : len ≤ 3072) (i0 : 0 ≤ i) (i1 : i + 6 ≤ len) (hd : 17 ≤ d) (hbc : 700 ≤ bc) (hbs : 1400 ≤ bs) (I : LI_ h z) (k : ∀ h1 z1 : PH, LI_ h1 z1 → SE_ (EL_ b len xs) ML_law d (bc - 700) (bs - 1400) QL_ 2422 [(2, 1399), (2, 0), (2, 196), (2, 224), (0, i), (9, 0), (9, 0)] [] nN h1) : SE_ (EL_ b len xs) ML_law d bc bs QL_ 1883 [(2, 1399), (2, 0), (2, 196), (2, 224), (0, i), (9, 0), (9, 0)] [] nN h := by
  obtain ⟨C, B, M⟩ := I
  refine s_aload_n dL_law_1883 rfl ?_
  refine s_aload_n dL_law_1884 rfl ?_
  refine s_iload dL_law_1885 rfl ?_
  refine s_iconst dL_law_1887 ?_
  refine s_iadd dL_law_1888 ?_
  refine s_sld dL_law_1889 (by omega) (by omega) hl ?_
  refine f_callV (d' := d - 1) (bc' := 700) (bs' := 1400) (as := [_]) hQ_ dL_law_1890 vf_L_220 (dd_ (by omega) (by decide)) ⟨hbc, hbs⟩ rfl rfl (Nat.le_of_ble_eq_true rfl) kl_6 rfl io_0 ?_
  refine v_ranked (v := xz_ xs (i + 1)) (by omega) (by omega) (by omega) C B (xz_in xs _) (fun h1 C1 B1 f1 => ?_)
  have M1 := mr_hi M C1.1 f1
  refine s_aload_n dL_law_1893 rfl ?_
  refine s_aload_n dL_law_1894 rfl ?_
  refine s_iload dL_law_1895 rfl ?_
  refine s_iconst dL_law_1897 ?_
  refine s_iadd dL_law_1898 ?_
  refine s_sld dL_law_1899 (by omega) (by omega) hl ?_
  refine f_callV (d' := d - 1) (bc' := 0) (bs' := 0) (as := [_]) hQ_ dL_law_1900 vf_L_223 (dd_ (by omega) (by decide)) ⟨Nat.zero_le _, Nat.zero_le _⟩ rfl rfl (Nat.le_of_ble_eq_true rfl) kl_7 rfl io_196 ?_
  refine r_ranked (v := xz_ xs (i + 1)) (by omega) M1 (xz_in xs _) (fun h2 M2 f2 t2 => ?_)
  refine s_icmp_eqS (tgt := 2422) dL_law_1903 (by decide) ?_
  exact k _ _ ⟨cr_lo C1 M2.1 (fun x y a => f2 x y (Or.inl a)), b5_lo B1 (fun y => f2 195 y (Or.inl (by omega))), M2⟩
set_option maxRecDepth 100000 in
set_option maxHeartbeats 4000000 in
theorem lc_ifDead (hl : len ≤ 3072) (i0 : 0 ≤ i) (i1 : i + 6 ≤ len) (hd : 17 ≤ d) (hbc : 700 ≤ bc) (hbs : 1400 ≤ bs) (I : LI_ h z) (k : ∀ h1 z1 : PH, LI_ h1 z1 → SE_ (EL_ b len xs) ML_law d (bc - 700) (bs - 1400) QL_ 2422 [(2, 1399), (2, 0), (2, 196), (2, 224), (0, i), (9, 0), (9, 0)] [] nN h1) : SE_ (EL_ b len xs) ML_law d bc bs QL_ 1908 [(2, 1399), (2, 0), (2, 196), (2, 224), (0, i), (9, 0), (9, 0)] [] nN h := by
  obtain ⟨C, B, M⟩ := I
  refine s_aload_n dL_law_1908 rfl ?_
  refine s_aload_n dL_law_1909 rfl ?_
  refine s_iload dL_law_1910 rfl ?_
  refine s_iconst dL_law_1912 ?_
  refine s_iadd dL_law_1913 ?_
  refine s_sld dL_law_1914 (by omega) (by omega) hl ?_
  refine s_aload_n dL_law_1915 rfl ?_
  refine s_iload dL_law_1916 rfl ?_
  refine s_iconst dL_law_1918 ?_
  refine s_iadd dL_law_1919 ?_
  refine s_sld dL_law_1920 (by omega) (by omega) hl ?_
  refine s_aload_n dL_law_1921 rfl ?_
  refine f_callSX (d' := d - 1) (bc' := 700) (bs' := 1400) (as := [_, _, _, _]) hQ_ dL_law_1922 sx_ifDead (dd_ (by omega) (by decide)) ⟨hbc, hbs⟩ rfl rfl (Nat.le_of_ble_eq_true rfl) ?_
  refine w_ifDead (p := xz_ xs (i + 1)) (t := xz_ xs (i + 2)) (by omega) (by omega) (by omega) C B (xz_in xs _) (xz_in xs _) (fun h1 C1 B1 f1 e1 => ?_)
  have M1 := mr_hi M C1.1 f1
  refine s_istore dL_law_1925 (by decide) rfl (L' := [(2, _), (2, _), (2, _), (2, _), (0, _), (0, _), (9, _)]) rfl ?_
  refine s_aload_n dL_law_1927 rfl ?_
  refine s_aload_n dL_law_1928 rfl ?_
  refine s_iload dL_law_1929 rfl ?_
  refine s_iconst dL_law_1931 ?_
  refine s_iadd dL_law_1932 ?_
  refine s_sld dL_law_1933 (by omega) (by omega) hl ?_
  refine s_aload_n dL_law_1934 rfl ?_
  refine s_iload dL_law_1935 rfl ?_
  refine s_iconst dL_law_1937 ?_
  refine s_iadd dL_law_1938 ?_
  refine s_sld dL_law_1939 (by omega) (by omega) hl ?_
  refine f_callV (d' := d - 1) (bc' := 0) (bs' := 0) (as := [_, _]) hQ_ dL_law_1940 vf_L_226 (dd_ (by omega) (by decide)) ⟨Nat.zero_le _, Nat.zero_le _⟩ rfl rfl (Nat.le_of_ble_eq_true rfl) kl_7 rfl io_196 ?_
  refine r_ifDead (p := xz_ xs (i + 1)) (t := xz_ xs (i + 2)) (by omega) M1 (xz_in xs _) (xz_in xs _) (fun h2 M2 f2 t2 => ?_)
  refine s_istore dL_law_1943 (by decide) rfl (L' := [(2, _), (2, _), (2, _), (2, _), (0, _), (0, _), (0, _)]) rfl ?_
  refine s_aload_n dL_law_1945 rfl ?_
  refine f_callV (d' := d - 1) (bc' := 0) (bs' := 0) (as := []) hQ_ dL_law_1946 vf_L_134 (dd_ (by omega) (by decide)) ⟨Nat.zero_le _, Nat.zero_le _⟩ rfl rfl (Nat.le_of_ble_eq_true rfl) kl_7 rfl io_196 ?_
  refine c_X9_thrown t2 ?_
  refine s_iload dL_law_1949 rfl ?_
  refine s_icmp_eqS (tgt := 1956) dL_law_1951 (by decide) ?_
  refine s_iload dL_law_1956 rfl ?_
  refine s_if_ne (tgt := 1973) dL_law_1958 (by decide) (k3_in ok_ifDead) (fun ck => ?_) (fun ck => ?_)
  · refine s_goto (tgt := 2422) dL_law_1973 (by decide) ?_
    refine s_fg (L' := [(2, 1399), (2, 0), (2, 196), (2, 224), (0, i), (9, 0), (9, 0)]) ⟨Or.inr rfl, Or.inr rfl, Or.inr rfl, Or.inr rfl, Or.inr rfl, Or.inl rfl, Or.inl rfl, trivial⟩ ?_
    exact k _ _ ⟨cr_lo C1 M2.1 (fun x y a => f2 x y (Or.inl a)), b5_lo B1 (fun y => f2 195 y (Or.inl (by omega))), M2⟩
  · have e2 : h2 224 0 = i3_ (op_ifDead z (xz_ xs (i + 1)) (xz_ xs (i + 2))).2.1 := (f2 224 0 (Or.inr (by omega))).trans (e1 ck)
    refine s_aload_n dL_law_1961 rfl ?_
    refine s_iconst dL_law_1962 ?_
    refine s_laload dL_law_1963 io_224 (by decide) (by decide) ?_
    rw [e2]
    refine s_iload dL_law_1964 rfl ?_
    refine s_i2lW dL_law_1966 ?_
    refine s_lcmp_eq (tgt := 1973) dL_law_1967 dL_law_1968 (by decide) (inI_L (i3_in _)) (inI_L (i3_in _)) (fun _ => ?_) (fun q => absurd rfl q)
    refine s_goto (tgt := 2422) dL_law_1973 (by decide) ?_
    refine s_fg (L' := [(2, 1399), (2, 0), (2, 196), (2, 224), (0, i), (9, 0), (9, 0)]) ⟨Or.inr rfl, Or.inr rfl, Or.inr rfl, Or.inr rfl, Or.inr rfl, Or.inl rfl, Or.inl rfl, trivial⟩ ?_
    exact k _ _ ⟨cr_lo C1 M2.1 (fun x y a => f2 x y (Or.inl a)), b5_lo B1 (fun y => f2 195 y (Or.inl (by omega))), M2⟩
set_option maxRecDepth 100000 in
set_option maxHeartbeats 4000000 in
theorem lc_ifSold (hl : len ≤ 3072) (i0 : 0 ≤ i) (i1 : i + 6 ≤ len) (hd : 17 ≤ d) (hbc : 700 ≤ bc) (hbs : 1400 ≤ bs) (I : LI_ h z) (k : ∀ h1 z1 : PH, LI_ h1 z1 → SE_ (EL_ b len xs) ML_law d (bc - 700) (bs - 1400) QL_ 2422 [(2, 1399), (2, 0), (2, 196), (2, 224), (0, i), (9, 0), (9, 0)] [] nN h1) : SE_ (EL_ b len xs) ML_law d bc bs QL_ 1976 [(2, 1399), (2, 0), (2, 196), (2, 224), (0, i), (9, 0), (9, 0)] [] nN h := by
  obtain ⟨C, B, M⟩ := I
  refine s_aload_n dL_law_1976 rfl ?_
  refine s_aload_n dL_law_1977 rfl ?_
  refine s_iload dL_law_1978 rfl ?_
  refine s_iconst dL_law_1980 ?_
  refine s_iadd dL_law_1981 ?_
  refine s_sld dL_law_1982 (by omega) (by omega) hl ?_
  refine s_aload_n dL_law_1983 rfl ?_
  refine s_iload dL_law_1984 rfl ?_
  refine s_iconst dL_law_1986 ?_
  refine s_iadd dL_law_1987 ?_
  refine s_sld dL_law_1988 (by omega) (by omega) hl ?_
  refine s_aload_n dL_law_1989 rfl ?_
  refine s_iload dL_law_1990 rfl ?_
  refine s_iconst dL_law_1992 ?_
  refine s_iadd dL_law_1993 ?_
  refine s_sld dL_law_1994 (by omega) (by omega) hl ?_
  refine s_aload_n dL_law_1995 rfl ?_
  refine s_iload dL_law_1996 rfl ?_
  refine s_iconst dL_law_1998 ?_
  refine s_iadd dL_law_1999 ?_
  refine s_sld dL_law_2000 (by omega) (by omega) hl ?_
  refine s_aload_n dL_law_2001 rfl ?_
  refine f_callSX (d' := d - 1) (bc' := 700) (bs' := 1400) (as := [_, _, _, _, _, _]) hQ_ dL_law_2002 sx_ifSold (dd_ (by omega) (by decide)) ⟨hbc, hbs⟩ rfl rfl (Nat.le_of_ble_eq_true rfl) ?_
  refine w_ifSold (p := xz_ xs (i + 1)) (t := xz_ xs (i + 2)) (v := xz_ xs (i + 3)) (e := xz_ xs (i + 4)) (by omega) (by omega) (by omega) C B (xz_in xs _) (xz_in xs _) (xz_in xs _) (xz_in xs _) (fun h1 C1 B1 f1 e1 => ?_)
  have M1 := mr_hi M C1.1 f1
  refine s_istore dL_law_2005 (by decide) rfl (L' := [(2, _), (2, _), (2, _), (2, _), (0, _), (0, _), (9, _)]) rfl ?_
  refine s_aload_n dL_law_2007 rfl ?_
  refine s_aload_n dL_law_2008 rfl ?_
  refine s_iload dL_law_2009 rfl ?_
  refine s_iconst dL_law_2011 ?_
  refine s_iadd dL_law_2012 ?_
  refine s_sld dL_law_2013 (by omega) (by omega) hl ?_
  refine s_aload_n dL_law_2014 rfl ?_
  refine s_iload dL_law_2015 rfl ?_
  refine s_iconst dL_law_2017 ?_
  refine s_iadd dL_law_2018 ?_
  refine s_sld dL_law_2019 (by omega) (by omega) hl ?_
  refine s_aload_n dL_law_2020 rfl ?_
  refine s_iload dL_law_2021 rfl ?_
  refine s_iconst dL_law_2023 ?_
  refine s_iadd dL_law_2024 ?_
  refine s_sld dL_law_2025 (by omega) (by omega) hl ?_
  refine s_aload_n dL_law_2026 rfl ?_
  refine s_iload dL_law_2027 rfl ?_
  refine s_iconst dL_law_2029 ?_
  refine s_iadd dL_law_2030 ?_
  refine s_sld dL_law_2031 (by omega) (by omega) hl ?_
  refine f_callV (d' := d - 1) (bc' := 0) (bs' := 0) (as := [_, _, _, _]) hQ_ dL_law_2032 vf_L_230 (dd_ (by omega) (by decide)) ⟨Nat.zero_le _, Nat.zero_le _⟩ rfl rfl (Nat.le_of_ble_eq_true rfl) kl_7 rfl io_196 ?_
  refine r_ifSold (p := xz_ xs (i + 1)) (t := xz_ xs (i + 2)) (v := xz_ xs (i + 3)) (e := xz_ xs (i + 4)) (by omega) M1 (xz_in xs _) (xz_in xs _) (xz_in xs _) (xz_in xs _) (fun h2 M2 f2 t2 => ?_)
  refine s_istore dL_law_2035 (by decide) rfl (L' := [(2, _), (2, _), (2, _), (2, _), (0, _), (0, _), (0, _)]) rfl ?_
  refine s_aload_n dL_law_2037 rfl ?_
  refine f_callV (d' := d - 1) (bc' := 0) (bs' := 0) (as := []) hQ_ dL_law_2038 vf_L_134 (dd_ (by omega) (by decide)) ⟨Nat.zero_le _, Nat.zero_le _⟩ rfl rfl (Nat.le_of_ble_eq_true rfl) kl_7 rfl io_196 ?_
  refine c_X9_thrown t2 ?_
  refine s_iload dL_law_2041 rfl ?_
  refine s_icmp_eqS (tgt := 2048) dL_law_2043 (by decide) ?_
  refine s_iload dL_law_2048 rfl ?_
  refine s_if_ne (tgt := 2065) dL_law_2050 (by decide) (k3_in ok_ifSold) (fun ck => ?_) (fun ck => ?_)
  · refine s_goto (tgt := 2422) dL_law_2065 (by decide) ?_
    refine s_fg (L' := [(2, 1399), (2, 0), (2, 196), (2, 224), (0, i), (9, 0), (9, 0)]) ⟨Or.inr rfl, Or.inr rfl, Or.inr rfl, Or.inr rfl, Or.inr rfl, Or.inl rfl, Or.inl rfl, trivial⟩ ?_
    exact k _ _ ⟨cr_lo C1 M2.1 (fun x y a => f2 x y (Or.inl a)), b5_lo B1 (fun y => f2 195 y (Or.inl (by omega))), M2⟩
  · have e2 : h2 224 0 = i3_ (op_ifSold z (xz_ xs (i + 1)) (xz_ xs (i + 2)) (xz_ xs (i + 3)) (xz_ xs (i + 4))).2.1 := (f2 224 0 (Or.inr (by omega))).trans (e1 ck)
    refine s_aload_n dL_law_2053 rfl ?_
    refine s_iconst dL_law_2054 ?_
    refine s_laload dL_law_2055 io_224 (by decide) (by decide) ?_
    rw [e2]
    refine s_iload dL_law_2056 rfl ?_
    refine s_i2lW dL_law_2058 ?_
    refine s_lcmp_eq (tgt := 2065) dL_law_2059 dL_law_2060 (by decide) (inI_L (i3_in _)) (inI_L (i3_in _)) (fun _ => ?_) (fun q => absurd rfl q)
    refine s_goto (tgt := 2422) dL_law_2065 (by decide) ?_
    refine s_fg (L' := [(2, 1399), (2, 0), (2, 196), (2, 224), (0, i), (9, 0), (9, 0)]) ⟨Or.inr rfl, Or.inr rfl, Or.inr rfl, Or.inr rfl, Or.inr rfl, Or.inl rfl, Or.inl rfl, trivial⟩ ?_
    exact k _ _ ⟨cr_lo C1 M2.1 (fun x y a => f2 x y (Or.inl a)), b5_lo B1 (fun y => f2 195 y (Or.inl (by omega))), M2⟩
set_option maxRecDepth 100000 in
set_option maxHeartbeats 4000000 in
theorem lc_ifDebt (hl : len ≤ 3072) (i0 : 0 ≤ i) (i1 : i + 6 ≤ len) (hd : 17 ≤ d) (hbc : 700 ≤ bc) (hbs : 1400 ≤ bs) (I : LI_ h z) (k : ∀ h1 z1 : PH, LI_ h1 z1 → SE_ (EL_ b len xs) ML_law d (bc - 700) (bs - 1400) QL_ 2422 [(2, 1399), (2, 0), (2, 196), (2, 224), (0, i), (9, 0), (9, 0)] [] nN h1) : SE_ (EL_ b len xs) ML_law d bc bs QL_ 2068 [(2, 1399), (2, 0), (2, 196), (2, 224), (0, i), (9, 0), (9, 0)] [] nN h := by
  obtain ⟨C, B, M⟩ := I
  refine s_aload_n dL_law_2068 rfl ?_
  refine s_aload_n dL_law_2069 rfl ?_
  refine s_iload dL_law_2070 rfl ?_
  refine s_iconst dL_law_2072 ?_
  refine s_iadd dL_law_2073 ?_
  refine s_sld dL_law_2074 (by omega) (by omega) hl ?_
  refine s_aload_n dL_law_2075 rfl ?_
  refine s_iload dL_law_2076 rfl ?_
  refine s_iconst dL_law_2078 ?_
  refine s_iadd dL_law_2079 ?_
  refine s_sld dL_law_2080 (by omega) (by omega) hl ?_
  refine s_aload_n dL_law_2081 rfl ?_
  refine f_callSX (d' := d - 1) (bc' := 700) (bs' := 1400) (as := [_, _, _, _]) hQ_ dL_law_2082 sx_ifDebt (dd_ (by omega) (by decide)) ⟨hbc, hbs⟩ rfl rfl (Nat.le_of_ble_eq_true rfl) ?_
  refine w_ifDebt (p := xz_ xs (i + 1)) (v := xz_ xs (i + 2)) (by omega) (by omega) (by omega) C B (xz_in xs _) (xz_in xs _) (fun h1 C1 B1 f1 e1 => ?_)
  have M1 := mr_hi M C1.1 f1
  refine s_istore dL_law_2085 (by decide) rfl (L' := [(2, _), (2, _), (2, _), (2, _), (0, _), (0, _), (9, _)]) rfl ?_
  refine s_aload_n dL_law_2087 rfl ?_
  refine s_aload_n dL_law_2088 rfl ?_
  refine s_iload dL_law_2089 rfl ?_
  refine s_iconst dL_law_2091 ?_
  refine s_iadd dL_law_2092 ?_
  refine s_sld dL_law_2093 (by omega) (by omega) hl ?_
  refine s_aload_n dL_law_2094 rfl ?_
  refine s_iload dL_law_2095 rfl ?_
  refine s_iconst dL_law_2097 ?_
  refine s_iadd dL_law_2098 ?_
  refine s_sld dL_law_2099 (by omega) (by omega) hl ?_
  refine f_callV (d' := d - 1) (bc' := 0) (bs' := 0) (as := [_, _]) hQ_ dL_law_2100 vf_L_233 (dd_ (by omega) (by decide)) ⟨Nat.zero_le _, Nat.zero_le _⟩ rfl rfl (Nat.le_of_ble_eq_true rfl) kl_7 rfl io_196 ?_
  refine r_ifDebt (p := xz_ xs (i + 1)) (v := xz_ xs (i + 2)) (by omega) M1 (xz_in xs _) (xz_in xs _) (fun h2 M2 f2 t2 => ?_)
  refine s_istore dL_law_2103 (by decide) rfl (L' := [(2, _), (2, _), (2, _), (2, _), (0, _), (0, _), (0, _)]) rfl ?_
  refine s_aload_n dL_law_2105 rfl ?_
  refine f_callV (d' := d - 1) (bc' := 0) (bs' := 0) (as := []) hQ_ dL_law_2106 vf_L_134 (dd_ (by omega) (by decide)) ⟨Nat.zero_le _, Nat.zero_le _⟩ rfl rfl (Nat.le_of_ble_eq_true rfl) kl_7 rfl io_196 ?_
  refine c_X9_thrown t2 ?_
  refine s_iload dL_law_2109 rfl ?_
  refine s_icmp_eqS (tgt := 2116) dL_law_2111 (by decide) ?_
  refine s_iload dL_law_2116 rfl ?_
  refine s_if_ne (tgt := 2133) dL_law_2118 (by decide) (k3_in ok_ifDebt) (fun ck => ?_) (fun ck => ?_)
  · refine s_goto (tgt := 2422) dL_law_2133 (by decide) ?_
    refine s_fg (L' := [(2, 1399), (2, 0), (2, 196), (2, 224), (0, i), (9, 0), (9, 0)]) ⟨Or.inr rfl, Or.inr rfl, Or.inr rfl, Or.inr rfl, Or.inr rfl, Or.inl rfl, Or.inl rfl, trivial⟩ ?_
    exact k _ _ ⟨cr_lo C1 M2.1 (fun x y a => f2 x y (Or.inl a)), b5_lo B1 (fun y => f2 195 y (Or.inl (by omega))), M2⟩
  · have e2 : h2 224 0 = i3_ (op_ifDebt z (xz_ xs (i + 1)) (xz_ xs (i + 2))).2.1 := (f2 224 0 (Or.inr (by omega))).trans (e1 ck)
    refine s_aload_n dL_law_2121 rfl ?_
    refine s_iconst dL_law_2122 ?_
    refine s_laload dL_law_2123 io_224 (by decide) (by decide) ?_
    rw [e2]
    refine s_iload dL_law_2124 rfl ?_
    refine s_i2lW dL_law_2126 ?_
    refine s_lcmp_eq (tgt := 2133) dL_law_2127 dL_law_2128 (by decide) (inI_L (i3_in _)) (inI_L (i3_in _)) (fun _ => ?_) (fun q => absurd rfl q)
    refine s_goto (tgt := 2422) dL_law_2133 (by decide) ?_
    refine s_fg (L' := [(2, 1399), (2, 0), (2, 196), (2, 224), (0, i), (9, 0), (9, 0)]) ⟨Or.inr rfl, Or.inr rfl, Or.inr rfl, Or.inr rfl, Or.inr rfl, Or.inl rfl, Or.inl rfl, trivial⟩ ?_
    exact k _ _ ⟨cr_lo C1 M2.1 (fun x y a => f2 x y (Or.inl a)), b5_lo B1 (fun y => f2 195 y (Or.inl (by omega))), M2⟩
set_option maxRecDepth 100000 in
set_option maxHeartbeats 4000000 in
theorem lc_ifRenounced (hl : len ≤ 3072) (i0 : 0 ≤ i) (i1 : i + 6 ≤ len) (hd : 17 ≤ d) (hbc : 700 ≤ bc) (hbs : 1400 ≤ bs) (I : LI_ h z) (k : ∀ h1 z1 : PH, LI_ h1 z1 → SE_ (EL_ b len xs) ML_law d (bc - 700) (bs - 1400) QL_ 2422 [(2, 1399), (2, 0), (2, 196), (2, 224), (0, i), (9, 0), (9, 0)] [] nN h1) : SE_ (EL_ b len xs) ML_law d bc bs QL_ 2136 [(2, 1399), (2, 0), (2, 196), (2, 224), (0, i), (9, 0), (9, 0)] [] nN h := by
  obtain ⟨C, B, M⟩ := I
  refine s_aload_n dL_law_2136 rfl ?_
  refine s_aload_n dL_law_2137 rfl ?_
  refine s_iload dL_law_2138 rfl ?_
  refine s_iconst dL_law_2140 ?_
  refine s_iadd dL_law_2141 ?_
  refine s_sld dL_law_2142 (by omega) (by omega) hl ?_
  refine s_aload_n dL_law_2143 rfl ?_
  refine s_iload dL_law_2144 rfl ?_
  refine s_iconst dL_law_2146 ?_
  refine s_iadd dL_law_2147 ?_
  refine s_sld dL_law_2148 (by omega) (by omega) hl ?_
  refine s_aload_n dL_law_2149 rfl ?_
  refine f_callSX (d' := d - 1) (bc' := 700) (bs' := 1400) (as := [_, _, _, _]) hQ_ dL_law_2150 sx_ifRenounced (dd_ (by omega) (by decide)) ⟨hbc, hbs⟩ rfl rfl (Nat.le_of_ble_eq_true rfl) ?_
  refine w_ifRenounced (p := xz_ xs (i + 1)) (g := xz_ xs (i + 2)) (by omega) (by omega) (by omega) C B (xz_in xs _) (xz_in xs _) (fun h1 C1 B1 f1 e1 => ?_)
  have M1 := mr_hi M C1.1 f1
  refine s_istore dL_law_2153 (by decide) rfl (L' := [(2, _), (2, _), (2, _), (2, _), (0, _), (0, _), (9, _)]) rfl ?_
  refine s_aload_n dL_law_2155 rfl ?_
  refine s_aload_n dL_law_2156 rfl ?_
  refine s_iload dL_law_2157 rfl ?_
  refine s_iconst dL_law_2159 ?_
  refine s_iadd dL_law_2160 ?_
  refine s_sld dL_law_2161 (by omega) (by omega) hl ?_
  refine s_aload_n dL_law_2162 rfl ?_
  refine s_iload dL_law_2163 rfl ?_
  refine s_iconst dL_law_2165 ?_
  refine s_iadd dL_law_2166 ?_
  refine s_sld dL_law_2167 (by omega) (by omega) hl ?_
  refine f_callV (d' := d - 1) (bc' := 0) (bs' := 0) (as := [_, _]) hQ_ dL_law_2168 vf_L_236 (dd_ (by omega) (by decide)) ⟨Nat.zero_le _, Nat.zero_le _⟩ rfl rfl (Nat.le_of_ble_eq_true rfl) kl_7 rfl io_196 ?_
  refine r_ifRenounced (p := xz_ xs (i + 1)) (g := xz_ xs (i + 2)) (by omega) M1 (xz_in xs _) (xz_in xs _) (fun h2 M2 f2 t2 => ?_)
  refine s_istore dL_law_2171 (by decide) rfl (L' := [(2, _), (2, _), (2, _), (2, _), (0, _), (0, _), (0, _)]) rfl ?_
  refine s_aload_n dL_law_2173 rfl ?_
  refine f_callV (d' := d - 1) (bc' := 0) (bs' := 0) (as := []) hQ_ dL_law_2174 vf_L_134 (dd_ (by omega) (by decide)) ⟨Nat.zero_le _, Nat.zero_le _⟩ rfl rfl (Nat.le_of_ble_eq_true rfl) kl_7 rfl io_196 ?_
  refine c_X9_thrown t2 ?_
  refine s_iload dL_law_2177 rfl ?_
  refine s_icmp_eqS (tgt := 2184) dL_law_2179 (by decide) ?_
  refine s_iload dL_law_2184 rfl ?_
  refine s_if_ne (tgt := 2201) dL_law_2186 (by decide) (k3_in ok_ifRenounced) (fun ck => ?_) (fun ck => ?_)
  · refine s_goto (tgt := 2422) dL_law_2201 (by decide) ?_
    refine s_fg (L' := [(2, 1399), (2, 0), (2, 196), (2, 224), (0, i), (9, 0), (9, 0)]) ⟨Or.inr rfl, Or.inr rfl, Or.inr rfl, Or.inr rfl, Or.inr rfl, Or.inl rfl, Or.inl rfl, trivial⟩ ?_
    exact k _ _ ⟨cr_lo C1 M2.1 (fun x y a => f2 x y (Or.inl a)), b5_lo B1 (fun y => f2 195 y (Or.inl (by omega))), M2⟩
  · have e2 : h2 224 0 = i3_ (op_ifRenounced z (xz_ xs (i + 1)) (xz_ xs (i + 2))).2.1 := (f2 224 0 (Or.inr (by omega))).trans (e1 ck)
    refine s_aload_n dL_law_2189 rfl ?_
    refine s_iconst dL_law_2190 ?_
    refine s_laload dL_law_2191 io_224 (by decide) (by decide) ?_
    rw [e2]
    refine s_iload dL_law_2192 rfl ?_
    refine s_i2lW dL_law_2194 ?_
    refine s_lcmp_eq (tgt := 2201) dL_law_2195 dL_law_2196 (by decide) (inI_L (i3_in _)) (inI_L (i3_in _)) (fun _ => ?_) (fun q => absurd rfl q)
    refine s_goto (tgt := 2422) dL_law_2201 (by decide) ?_
    refine s_fg (L' := [(2, 1399), (2, 0), (2, 196), (2, 224), (0, i), (9, 0), (9, 0)]) ⟨Or.inr rfl, Or.inr rfl, Or.inr rfl, Or.inr rfl, Or.inr rfl, Or.inl rfl, Or.inl rfl, trivial⟩ ?_
    exact k _ _ ⟨cr_lo C1 M2.1 (fun x y a => f2 x y (Or.inl a)), b5_lo B1 (fun y => f2 195 y (Or.inl (by omega))), M2⟩
set_option maxRecDepth 100000 in
set_option maxHeartbeats 4000000 in
theorem lc_ifHeld (hl : len ≤ 3072) (i0 : 0 ≤ i) (i1 : i + 6 ≤ len) (hd : 17 ≤ d) (hbc : 700 ≤ bc) (hbs : 1400 ≤ bs) (I : LI_ h z) (k : ∀ h1 z1 : PH, LI_ h1 z1 → SE_ (EL_ b len xs) ML_law d (bc - 700) (bs - 1400) QL_ 2422 [(2, 1399), (2, 0), (2, 196), (2, 224), (0, i), (9, 0), (9, 0)] [] nN h1) : SE_ (EL_ b len xs) ML_law d bc bs QL_ 2204 [(2, 1399), (2, 0), (2, 196), (2, 224), (0, i), (9, 0), (9, 0)] [] nN h := by
  obtain ⟨C, B, M⟩ := I
  refine s_aload_n dL_law_2204 rfl ?_
  refine s_aload_n dL_law_2205 rfl ?_
  refine s_iload dL_law_2206 rfl ?_
  refine s_iconst dL_law_2208 ?_
  refine s_iadd dL_law_2209 ?_
  refine s_sld dL_law_2210 (by omega) (by omega) hl ?_
  refine s_aload_n dL_law_2211 rfl ?_
  refine f_callSX (d' := d - 1) (bc' := 700) (bs' := 1400) (as := [_, _, _]) hQ_ dL_law_2212 sx_ifHeld (dd_ (by omega) (by decide)) ⟨hbc, hbs⟩ rfl rfl (Nat.le_of_ble_eq_true rfl) ?_
  refine w_ifHeld (g := xz_ xs (i + 1)) (by omega) (by omega) (by omega) C B (xz_in xs _) (fun h1 C1 B1 f1 e1 => ?_)
  have M1 := mr_hi M C1.1 f1
  refine s_istore dL_law_2215 (by decide) rfl (L' := [(2, _), (2, _), (2, _), (2, _), (0, _), (0, _), (9, _)]) rfl ?_
  refine s_aload_n dL_law_2217 rfl ?_
  refine s_aload_n dL_law_2218 rfl ?_
  refine s_iload dL_law_2219 rfl ?_
  refine s_iconst dL_law_2221 ?_
  refine s_iadd dL_law_2222 ?_
  refine s_sld dL_law_2223 (by omega) (by omega) hl ?_
  refine f_callV (d' := d - 1) (bc' := 0) (bs' := 0) (as := [_]) hQ_ dL_law_2224 vf_L_239 (dd_ (by omega) (by decide)) ⟨Nat.zero_le _, Nat.zero_le _⟩ rfl rfl (Nat.le_of_ble_eq_true rfl) kl_7 rfl io_196 ?_
  refine r_ifHeld (g := xz_ xs (i + 1)) (by omega) M1 (xz_in xs _) (fun h2 M2 f2 t2 => ?_)
  refine s_istore dL_law_2227 (by decide) rfl (L' := [(2, _), (2, _), (2, _), (2, _), (0, _), (0, _), (0, _)]) rfl ?_
  refine s_aload_n dL_law_2229 rfl ?_
  refine f_callV (d' := d - 1) (bc' := 0) (bs' := 0) (as := []) hQ_ dL_law_2230 vf_L_134 (dd_ (by omega) (by decide)) ⟨Nat.zero_le _, Nat.zero_le _⟩ rfl rfl (Nat.le_of_ble_eq_true rfl) kl_7 rfl io_196 ?_
  refine c_X9_thrown t2 ?_
  refine s_iload dL_law_2233 rfl ?_
  refine s_icmp_eqS (tgt := 2240) dL_law_2235 (by decide) ?_
  refine s_iload dL_law_2240 rfl ?_
  refine s_if_ne (tgt := 2257) dL_law_2242 (by decide) (k3_in ok_ifHeld) (fun ck => ?_) (fun ck => ?_)
  · refine s_goto (tgt := 2422) dL_law_2257 (by decide) ?_
    refine s_fg (L' := [(2, 1399), (2, 0), (2, 196), (2, 224), (0, i), (9, 0), (9, 0)]) ⟨Or.inr rfl, Or.inr rfl, Or.inr rfl, Or.inr rfl, Or.inr rfl, Or.inl rfl, Or.inl rfl, trivial⟩ ?_
    exact k _ _ ⟨cr_lo C1 M2.1 (fun x y a => f2 x y (Or.inl a)), b5_lo B1 (fun y => f2 195 y (Or.inl (by omega))), M2⟩
  · have e2 : h2 224 0 = i3_ (op_ifHeld z (xz_ xs (i + 1))).2.1 := (f2 224 0 (Or.inr (by omega))).trans (e1 ck)
    refine s_aload_n dL_law_2245 rfl ?_
    refine s_iconst dL_law_2246 ?_
    refine s_laload dL_law_2247 io_224 (by decide) (by decide) ?_
    rw [e2]
    refine s_iload dL_law_2248 rfl ?_
    refine s_i2lW dL_law_2250 ?_
    refine s_lcmp_eq (tgt := 2257) dL_law_2251 dL_law_2252 (by decide) (inI_L (i3_in _)) (inI_L (i3_in _)) (fun _ => ?_) (fun q => absurd rfl q)
    refine s_goto (tgt := 2422) dL_law_2257 (by decide) ?_
    refine s_fg (L' := [(2, 1399), (2, 0), (2, 196), (2, 224), (0, i), (9, 0), (9, 0)]) ⟨Or.inr rfl, Or.inr rfl, Or.inr rfl, Or.inr rfl, Or.inr rfl, Or.inl rfl, Or.inl rfl, trivial⟩ ?_
    exact k _ _ ⟨cr_lo C1 M2.1 (fun x y a => f2 x y (Or.inl a)), b5_lo B1 (fun y => f2 195 y (Or.inl (by omega))), M2⟩
set_option maxRecDepth 100000 in
set_option maxHeartbeats 4000000 in
theorem lc_envied (hl : len ≤ 3072) (i0 : 0 ≤ i) (i1 : i + 6 ≤ len) (hd : 17 ≤ d) (hbc : 700 ≤ bc) (hbs : 1400 ≤ bs) (I : LI_ h z) (k : ∀ h1 z1 : PH, LI_ h1 z1 → SE_ (EL_ b len xs) ML_law d (bc - 700) (bs - 1400) QL_ 2422 [(2, 1399), (2, 0), (2, 196), (2, 224), (0, i), (9, 0), (9, 0)] [] nN h1) : SE_ (EL_ b len xs) ML_law d bc bs QL_ 2260 [(2, 1399), (2, 0), (2, 196), (2, 224), (0, i), (9, 0), (9, 0)] [] nN h := by
  obtain ⟨C, B, M⟩ := I
  refine s_aload_n dL_law_2260 rfl ?_
  refine s_aload_n dL_law_2261 rfl ?_
  refine s_iload dL_law_2262 rfl ?_
  refine s_iconst dL_law_2264 ?_
  refine s_iadd dL_law_2265 ?_
  refine s_sld dL_law_2266 (by omega) (by omega) hl ?_
  refine s_aload_n dL_law_2267 rfl ?_
  refine f_callSX (d' := d - 1) (bc' := 700) (bs' := 1400) (as := [_, _, _]) hQ_ dL_law_2268 sx_envied (dd_ (by omega) (by decide)) ⟨hbc, hbs⟩ rfl rfl (Nat.le_of_ble_eq_true rfl) ?_
  refine w_envied (p := xz_ xs (i + 1)) (by omega) (by omega) (by omega) C B (xz_in xs _) (fun h1 C1 B1 f1 e1 => ?_)
  have M1 := mr_hi M C1.1 f1
  refine s_istore dL_law_2271 (by decide) rfl (L' := [(2, _), (2, _), (2, _), (2, _), (0, _), (0, _), (9, _)]) rfl ?_
  refine s_aload_n dL_law_2273 rfl ?_
  refine s_aload_n dL_law_2274 rfl ?_
  refine s_iload dL_law_2275 rfl ?_
  refine s_iconst dL_law_2277 ?_
  refine s_iadd dL_law_2278 ?_
  refine s_sld dL_law_2279 (by omega) (by omega) hl ?_
  refine f_callV (d' := d - 1) (bc' := 0) (bs' := 0) (as := [_]) hQ_ dL_law_2280 vf_L_242 (dd_ (by omega) (by decide)) ⟨Nat.zero_le _, Nat.zero_le _⟩ rfl rfl (Nat.le_of_ble_eq_true rfl) kl_7 rfl io_196 ?_
  refine r_envied (p := xz_ xs (i + 1)) (by omega) M1 (xz_in xs _) (fun h2 M2 f2 t2 => ?_)
  refine s_istore dL_law_2283 (by decide) rfl (L' := [(2, _), (2, _), (2, _), (2, _), (0, _), (0, _), (0, _)]) rfl ?_
  refine s_aload_n dL_law_2285 rfl ?_
  refine f_callV (d' := d - 1) (bc' := 0) (bs' := 0) (as := []) hQ_ dL_law_2286 vf_L_134 (dd_ (by omega) (by decide)) ⟨Nat.zero_le _, Nat.zero_le _⟩ rfl rfl (Nat.le_of_ble_eq_true rfl) kl_7 rfl io_196 ?_
  refine c_X9_thrown t2 ?_
  refine s_iload dL_law_2289 rfl ?_
  refine s_icmp_eqS (tgt := 2296) dL_law_2291 (by decide) ?_
  refine s_iload dL_law_2296 rfl ?_
  refine s_if_ne (tgt := 2313) dL_law_2298 (by decide) (k3_in ok_envied) (fun ck => ?_) (fun ck => ?_)
  · refine s_goto (tgt := 2422) dL_law_2313 (by decide) ?_
    refine s_fg (L' := [(2, 1399), (2, 0), (2, 196), (2, 224), (0, i), (9, 0), (9, 0)]) ⟨Or.inr rfl, Or.inr rfl, Or.inr rfl, Or.inr rfl, Or.inr rfl, Or.inl rfl, Or.inl rfl, trivial⟩ ?_
    exact k _ _ ⟨cr_lo C1 M2.1 (fun x y a => f2 x y (Or.inl a)), b5_lo B1 (fun y => f2 195 y (Or.inl (by omega))), M2⟩
  · have e2 : h2 224 0 = i3_ (op_envied z (xz_ xs (i + 1))).2.1 := (f2 224 0 (Or.inr (by omega))).trans (e1 ck)
    refine s_aload_n dL_law_2301 rfl ?_
    refine s_iconst dL_law_2302 ?_
    refine s_laload dL_law_2303 io_224 (by decide) (by decide) ?_
    rw [e2]
    refine s_iload dL_law_2304 rfl ?_
    refine s_i2lW dL_law_2306 ?_
    refine s_lcmp_eq (tgt := 2313) dL_law_2307 dL_law_2308 (by decide) (inI_L (i3_in _)) (inI_L (i3_in _)) (fun _ => ?_) (fun q => absurd rfl q)
    refine s_goto (tgt := 2422) dL_law_2313 (by decide) ?_
    refine s_fg (L' := [(2, 1399), (2, 0), (2, 196), (2, 224), (0, i), (9, 0), (9, 0)]) ⟨Or.inr rfl, Or.inr rfl, Or.inr rfl, Or.inr rfl, Or.inr rfl, Or.inl rfl, Or.inl rfl, trivial⟩ ?_
    exact k _ _ ⟨cr_lo C1 M2.1 (fun x y a => f2 x y (Or.inl a)), b5_lo B1 (fun y => f2 195 y (Or.inl (by omega))), M2⟩
set_option maxRecDepth 100000 in
set_option maxHeartbeats 4000000 in
theorem lc_write (hl : len ≤ 3072) (i0 : 0 ≤ i) (i1 : i + 6 ≤ len) (hd : 17 ≤ d) (hbc : 700 ≤ bc) (hbs : 1400 ≤ bs) (I : LI_ h z) (k : ∀ h1 z1 : PH, LI_ h1 z1 → SE_ (EL_ b len xs) ML_law d (bc - 700) (bs - 1400) QL_ 2422 [(2, 1399), (2, 0), (2, 196), (2, 224), (0, i), (9, 0), (9, 0)] [] nN h1) : SE_ (EL_ b len xs) ML_law d bc bs QL_ 2316 [(2, 1399), (2, 0), (2, 196), (2, 224), (0, i), (9, 0), (9, 0)] [] nN h := by
  obtain ⟨C, B, M⟩ := I
  refine s_aload_n dL_law_2316 rfl ?_
  refine s_aload_n dL_law_2317 rfl ?_
  refine s_iload dL_law_2318 rfl ?_
  refine s_iconst dL_law_2320 ?_
  refine s_iadd dL_law_2321 ?_
  refine s_sld dL_law_2322 (by omega) (by omega) hl ?_
  refine s_aload_n dL_law_2323 rfl ?_
  refine f_callSX (d' := d - 1) (bc' := 700) (bs' := 1400) (as := [_, _, _]) hQ_ dL_law_2324 sx_write (dd_ (by omega) (by decide)) ⟨hbc, hbs⟩ rfl rfl (Nat.le_of_ble_eq_true rfl) ?_
  refine w_write (p := xz_ xs (i + 1)) (by omega) (by omega) (by omega) C B (xz_in xs _) (fun h1 C1 B1 f1 e1 => ?_)
  have M1 := mr_hi M C1.1 f1
  refine s_istore dL_law_2327 (by decide) rfl (L' := [(2, _), (2, _), (2, _), (2, _), (0, _), (0, _), (9, _)]) rfl ?_
  refine s_aload_n dL_law_2329 rfl ?_
  refine s_aload_n dL_law_2330 rfl ?_
  refine s_iload dL_law_2331 rfl ?_
  refine s_iconst dL_law_2333 ?_
  refine s_iadd dL_law_2334 ?_
  refine s_sld dL_law_2335 (by omega) (by omega) hl ?_
  refine f_callV (d' := d - 1) (bc' := 0) (bs' := 0) (as := [_]) hQ_ dL_law_2336 vf_L_245 (dd_ (by omega) (by decide)) ⟨Nat.zero_le _, Nat.zero_le _⟩ rfl rfl (Nat.le_of_ble_eq_true rfl) kl_7 rfl io_196 ?_
  refine r_write (p := xz_ xs (i + 1)) (by omega) M1 (xz_in xs _) (fun h2 M2 f2 t2 => ?_)
  refine s_istore dL_law_2339 (by decide) rfl (L' := [(2, _), (2, _), (2, _), (2, _), (0, _), (0, _), (0, _)]) rfl ?_
  refine s_aload_n dL_law_2341 rfl ?_
  refine f_callV (d' := d - 1) (bc' := 0) (bs' := 0) (as := []) hQ_ dL_law_2342 vf_L_134 (dd_ (by omega) (by decide)) ⟨Nat.zero_le _, Nat.zero_le _⟩ rfl rfl (Nat.le_of_ble_eq_true rfl) kl_7 rfl io_196 ?_
  refine c_X9_thrown t2 ?_
  refine s_iload dL_law_2345 rfl ?_
  refine s_icmp_eqS (tgt := 2352) dL_law_2347 (by decide) ?_
  refine s_iload dL_law_2352 rfl ?_
  refine s_if_ne (tgt := 2369) dL_law_2354 (by decide) (k3_in ok_write) (fun ck => ?_) (fun ck => ?_)
  · refine s_goto (tgt := 2422) dL_law_2369 (by decide) ?_
    refine s_fg (L' := [(2, 1399), (2, 0), (2, 196), (2, 224), (0, i), (9, 0), (9, 0)]) ⟨Or.inr rfl, Or.inr rfl, Or.inr rfl, Or.inr rfl, Or.inr rfl, Or.inl rfl, Or.inl rfl, trivial⟩ ?_
    exact k _ _ ⟨cr_lo C1 M2.1 (fun x y a => f2 x y (Or.inl a)), b5_lo B1 (fun y => f2 195 y (Or.inl (by omega))), M2⟩
  · have e2 : h2 224 0 = i3_ (op_write z (xz_ xs (i + 1))).2.1 := (f2 224 0 (Or.inr (by omega))).trans (e1 ck)
    refine s_aload_n dL_law_2357 rfl ?_
    refine s_iconst dL_law_2358 ?_
    refine s_laload dL_law_2359 io_224 (by decide) (by decide) ?_
    rw [e2]
    refine s_iload dL_law_2360 rfl ?_
    refine s_i2lW dL_law_2362 ?_
    refine s_lcmp_eq (tgt := 2369) dL_law_2363 dL_law_2364 (by decide) (inI_L (i3_in _)) (inI_L (i3_in _)) (fun _ => ?_) (fun q => absurd rfl q)
    refine s_goto (tgt := 2422) dL_law_2369 (by decide) ?_
    refine s_fg (L' := [(2, 1399), (2, 0), (2, 196), (2, 224), (0, i), (9, 0), (9, 0)]) ⟨Or.inr rfl, Or.inr rfl, Or.inr rfl, Or.inr rfl, Or.inr rfl, Or.inl rfl, Or.inl rfl, trivial⟩ ?_
    exact k _ _ ⟨cr_lo C1 M2.1 (fun x y a => f2 x y (Or.inl a)), b5_lo B1 (fun y => f2 195 y (Or.inl (by omega))), M2⟩
set_option maxRecDepth 100000 in
set_option maxHeartbeats 4000000 in
theorem lc_octet (hl : len ≤ 3072) (i0 : 0 ≤ i) (i1 : i + 6 ≤ len) (hd : 17 ≤ d) (hbc : 700 ≤ bc) (hbs : 1400 ≤ bs) (I : LI_ h z) (k : ∀ h1 z1 : PH, LI_ h1 z1 → SE_ (EL_ b len xs) ML_law d (bc - 700) (bs - 1400) QL_ 2422 [(2, 1399), (2, 0), (2, 196), (2, 224), (0, i), (9, 0), (9, 0)] [] nN h1) : SE_ (EL_ b len xs) ML_law d bc bs QL_ 2372 [(2, 1399), (2, 0), (2, 196), (2, 224), (0, i), (9, 0), (9, 0)] [] nN h := by
  obtain ⟨C, B, M⟩ := I
  refine s_aload_n dL_law_2372 rfl ?_
  refine s_aload_n dL_law_2373 rfl ?_
  refine s_iload dL_law_2374 rfl ?_
  refine s_iconst dL_law_2376 ?_
  refine s_iadd dL_law_2377 ?_
  refine s_sld dL_law_2378 (by omega) (by omega) hl ?_
  refine f_callV (d' := d - 1) (bc' := 700) (bs' := 1400) (as := [_]) hQ_ dL_law_2379 vf_L_246 (dd_ (by omega) (by decide)) ⟨hbc, hbs⟩ rfl rfl (Nat.le_of_ble_eq_true rfl) kl_6 rfl io_0 ?_
  refine v_octet (v := xz_ xs (i + 1)) (by omega) (by omega) (by omega) C B (xz_in xs _) (fun h1 C1 B1 f1 => ?_)
  have M1 := mr_hi M C1.1 f1
  refine s_aload_n dL_law_2382 rfl ?_
  refine s_aload_n dL_law_2383 rfl ?_
  refine s_iload dL_law_2384 rfl ?_
  refine s_iconst dL_law_2386 ?_
  refine s_iadd dL_law_2387 ?_
  refine s_sld dL_law_2388 (by omega) (by omega) hl ?_
  refine f_callV (d' := d - 1) (bc' := 0) (bs' := 0) (as := [_]) hQ_ dL_law_2389 vf_L_249 (dd_ (by omega) (by decide)) ⟨Nat.zero_le _, Nat.zero_le _⟩ rfl rfl (Nat.le_of_ble_eq_true rfl) kl_7 rfl io_196 ?_
  refine r_octet (v := xz_ xs (i + 1)) (by omega) M1 (xz_in xs _) (fun h2 M2 f2 t2 => ?_)
  refine s_icmp_eqS (tgt := 2422) dL_law_2392 (by decide) ?_
  exact k _ _ ⟨cr_lo C1 M2.1 (fun x y a => f2 x y (Or.inl a)), b5_lo B1 (fun y => f2 195 y (Or.inl (by omega))), M2⟩
set_option maxRecDepth 100000 in
set_option maxHeartbeats 4000000 in
theorem lc_count (hl : len ≤ 3072) (i0 : 0 ≤ i) (i1 : i + 6 ≤ len) (hd : 17 ≤ d) (hbc : 700 ≤ bc) (hbs : 1400 ≤ bs) (I : LI_ h z) (k : ∀ h1 z1 : PH, LI_ h1 z1 → SE_ (EL_ b len xs) ML_law d (bc - 700) (bs - 1400) QL_ 2422 [(2, 1399), (2, 0), (2, 196), (2, 224), (0, i), (9, 0), (9, 0)] [] nN h1) : SE_ (EL_ b len xs) ML_law d bc bs QL_ 2397 [(2, 1399), (2, 0), (2, 196), (2, 224), (0, i), (9, 0), (9, 0)] [] nN h := by
  obtain ⟨C, B, M⟩ := I
  refine s_aload_n dL_law_2397 rfl ?_
  refine s_aload_n dL_law_2398 rfl ?_
  refine s_iload dL_law_2399 rfl ?_
  refine s_iconst dL_law_2401 ?_
  refine s_iadd dL_law_2402 ?_
  refine s_sld dL_law_2403 (by omega) (by omega) hl ?_
  refine f_callV (d' := d - 1) (bc' := 700) (bs' := 1400) (as := [_]) hQ_ dL_law_2404 vf_L_250 (dd_ (by omega) (by decide)) ⟨hbc, hbs⟩ rfl rfl (Nat.le_of_ble_eq_true rfl) kl_6 rfl io_0 ?_
  refine v_count (v := xz_ xs (i + 1)) (by omega) (by omega) (by omega) C B (xz_in xs _) (fun h1 C1 B1 f1 => ?_)
  have M1 := mr_hi M C1.1 f1
  refine s_aload_n dL_law_2407 rfl ?_
  refine s_aload_n dL_law_2408 rfl ?_
  refine s_iload dL_law_2409 rfl ?_
  refine s_iconst dL_law_2411 ?_
  refine s_iadd dL_law_2412 ?_
  refine s_sld dL_law_2413 (by omega) (by omega) hl ?_
  refine f_callV (d' := d - 1) (bc' := 0) (bs' := 0) (as := [_]) hQ_ dL_law_2414 vf_L_253 (dd_ (by omega) (by decide)) ⟨Nat.zero_le _, Nat.zero_le _⟩ rfl rfl (Nat.le_of_ble_eq_true rfl) kl_7 rfl io_196 ?_
  refine r_count (v := xz_ xs (i + 1)) (by omega) M1 (xz_in xs _) (fun h2 M2 f2 t2 => ?_)
  refine s_icmp_eqS (tgt := 2422) dL_law_2417 (by decide) ?_
  exact k _ _ ⟨cr_lo C1 M2.1 (fun x y a => f2 x y (Or.inl a)), b5_lo B1 (fun y => f2 195 y (Or.inl (by omega))), M2⟩
end LWE
