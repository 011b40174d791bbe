/-! THE LAW -/
abbrev ML_law : PM := (RL, cL_law, 9, (some .boolean))
section LAWR
variable {b len : Nat} {xs : Nat → Int32} {bc bs : Nat} {Q : PQ} {pc : Nat} {L st : List PV} {h z : PH}
abbrev SL_ (b len : Nat) (xs : Nat → Int32) (bc bs : Nat) (Q : PQ) (pc : Nat) (L st : List PV) (N : Nat) (h : PH) : Prop := SE_ (EL_ b len xs) ML_law 16 bc bs Q pc L st N h
theorem y_est {v a : Int} (hv : zestate z v = a) (hd : decode ML_law.2.1 pc = .ok (.invokevirtual 112, 3)) (C : CR_ h z) (v0 : 0 ≤ v) (v1 : v ≤ 7) (hb : 8 ≤ bc ∧ 48 ≤ bs) (hcat : pcat_ st ≤ 8) (kk : ∀ h1 : PH, CR_ h1 z → SL_ b len xs (bc - 8) (bs - 48) Q (pc + 3) L ((0, a) :: st) 202 h1) (h5 : nk5_ L = true := by rfl) (h6 : nk5_ st = true := by rfl) : SL_ b len xs bc bs Q pc L ((0, v) :: (2, 0) :: st) 202 h := by
  subst hv
  exact e0_callV (d' := 15) (bc' := 8) (bs' := 48) (as := [(0, v)]) hd vf_L_112 (by decide) hb rfl rfl hcat kl_6 rfl io_0 (c_X8_estate (by decide) (Nat.le_refl _) (Nat.le_refl _) C ⟨by omega, by omega⟩ (fun _ _ h1 C1 _ => kk h1 C1) (fun c => absurd ⟨v0, v1⟩ c)) h5 h6
theorem y_cls {c v : Int} (hd : decode ML_law.2.1 pc = .ok (.invokevirtual 122, 3)) (C : CR_ h z) (c0 : 0 ≤ c) (c1 : c ≤ 6) (v0 : 0 ≤ v) (v1 : v ≤ 2) (hb : 8 ≤ bc ∧ 48 ≤ bs) (hcat : pcat_ st ≤ 8) (kk : ∀ h1 : PH, CR_ h1 z → SL_ b len xs (bc - 8) (bs - 48) Q (pc + 3) L ((0, zclassed z c v) :: st) 202 h1) (h5 : nk5_ L = true := by rfl) (h6 : nk5_ st = true := by rfl) : SL_ b len xs bc bs Q pc L ((0, v) :: (0, c) :: (2, 0) :: st) 202 h :=
  e0_callV (d' := 15) (bc' := 8) (bs' := 48) (as := [(0, c), (0, v)]) hd vf_L_122 (by decide) hb rfl rfl hcat kl_6 rfl io_0 (c_X8_classed (by decide) (Nat.le_refl _) (Nat.le_refl _) C ⟨by omega, by omega⟩ ⟨by omega, by omega⟩ (fun _ _ _ _ h1 C1 _ => kk h1 C1) (fun q => absurd ⟨c0, c1⟩ q) (fun _ _ q => absurd ⟨v0, v1⟩ q)) h5 h6
theorem y_tkn {p : Int} (hd : decode ML_law.2.1 pc = .ok (.invokevirtual 118, 3)) (C : CR_ h z) (p0 : 0 ≤ p) (p1 : p < z 0 1) (hb : 8 ≤ bc ∧ 48 ≤ bs) (hcat : pcat_ st ≤ 8) (kk : ∀ h1 : PH, CR_ h1 z → SL_ b len xs (bc - 8) (bs - 48) Q (pc + 3) L ((0, zta z p) :: st) 202 h1) (h5 : nk5_ L = true := by rfl) (h6 : nk5_ st = true := by rfl) : SL_ b len xs bc bs Q pc L ((0, 0) :: (0, p) :: (2, 0) :: st) 202 h := by
  have hP := (cr_i C).2.2.1
  refine e0_callV (d' := 15) (bc' := 8) (bs' := 48) (as := [(0, p), (0, 0)]) hd vf_L_118 (by decide) hb rfl rfl hcat kl_6 rfl io_0 (c_X8_taken (by decide) (Nat.le_refl _) (Nat.le_refl _) C ⟨by omega, by omega⟩ ⟨by omega, by omega⟩ (fun _ _ _ _ h1 C1 _ => ?_) (fun q => absurd ⟨p0, p1⟩ q) (fun _ _ q => absurd ⟨by omega, by omega⟩ q)) h5 h6
  have e : ztaken z p 0 = zta z p := if_pos rfl
  rw [e]
  exact kk h1 C1
theorem y_lst {c : Int} (hd : decode ML_law.2.1 pc = .ok (.invokevirtual 125, 3)) (C : CR_ h z) (c0 : 0 ≤ c) (c1 : c ≤ 4) (hb : 8 ≤ bc ∧ 48 ≤ bs) (hcat : pcat_ st ≤ 8) (kk : ∀ h1 : PH, CR_ h1 z → SL_ b len xs (bc - 8) (bs - 48) Q (pc + 3) L ((0, zleast z c) :: st) 202 h1) (h5 : nk5_ L = true := by rfl) (h6 : nk5_ st = true := by rfl) : SL_ b len xs bc bs Q pc L ((0, c) :: (2, 0) :: st) 202 h :=
  e0_callV (d' := 15) (bc' := 8) (bs' := 48) (as := [(0, c)]) hd vf_L_125 (by decide) hb rfl rfl hcat kl_6 rfl io_0 (c_X8_leastDebt (by decide) (Nat.le_refl _) (Nat.le_refl _) C ⟨by omega, by omega⟩ (fun _ _ h1 C1 _ => kk h1 C1) (fun q => absurd ⟨c0, c1⟩ q)) h5 h6
theorem y_set {v : Int} (hd : decode ML_law.2.1 pc = .ok (.invokevirtual 129, 3)) (C : CR_ h z) (v0 : 0 ≤ v) (v1 : v ≤ 99999) (hb : 8 ≤ bc ∧ 48 ≤ bs) (hcat : pcat_ st ≤ 8) (kk : ∀ h1 : PH, CR_ h1 (zact z (fu_ (z 1) 57 v)) → SL_ b len xs (bc - 8) (bs - 48) Q (pc + 3) L ((0, z 1 57) :: st) 202 h1) (h5 : nk5_ L = true := by rfl) (h6 : nk5_ st = true := by rfl) : SL_ b len xs bc bs Q pc L ((0, v) :: (0, 1) :: (2, 0) :: st) 202 h := by
  have ez : zmt 1 = 99999 := rfl
  refine e0_callV (d' := 15) (bc' := 8) (bs' := 48) (as := [(0, 1), (0, v)]) hd vf_L_129 (by decide) hb rfl rfl hcat kl_6 rfl io_0 ?_ h5 h6
  exact c_X8_set (t := 1) (by decide) (Nat.le_refl _) (Nat.le_refl _) C ⟨by decide, by decide⟩ ⟨by omega, by omega⟩ (fun _ _ _ _ h1 C1 _ => kk h1 C1) (fun q => absurd ⟨by decide, by decide⟩ q) (fun _ _ q => absurd ⟨v0, by omega⟩ q)
theorem y_und (hd : decode ML_law.2.1 pc = .ok (.invokevirtual 137, 3)) (C : CR_ h z) (a0 : 0 < z 53 0) (hb : 8 ≤ bc ∧ 48 ≤ bs) (hcat : pcat_ st ≤ 8) (kk : ∀ h1 : PH, CR_ h1 (zundo z) → SL_ b len xs (bc - 8) (bs - 48) Q (pc + 3) L ((0, z 53 0 - 1) :: st) 202 h1) (h5 : nk5_ L = true := by rfl) (h6 : nk5_ st = true := by rfl) : SL_ b len xs bc bs Q pc L ((2, 0) :: st) 202 h :=
  e0_callV (d' := 15) (bc' := 8) (bs' := 48) (as := []) hd vf_L_137 (by decide) hb rfl rfl hcat kl_6 rfl io_0 (c_X8_undo (by decide) (Nat.le_refl _) (Nat.le_refl _) C (fun _ h1 C1 _ => kk h1 C1) (fun q => absurd q (by omega))) h5 h6
theorem y_cnt1 (hd : decode ML_law.2.1 pc = .ok (.invokevirtual 115, 3)) (C : CR_ h z) (hcat : pcat_ st ≤ 8) (kk : SL_ b len xs bc bs Q (pc + 3) L ((0, z 0 1) :: st) 202 h) (h5 : nk5_ L = true := by rfl) (h6 : nk5_ st = true := by rfl) : SL_ b len xs bc bs Q pc L ((0, 1) :: (2, 0) :: st) 202 h :=
  e0_callV (d' := 15) (bc' := 0) (bs' := 0) (as := [(0, 1)]) hd vf_L_115 (by decide) ⟨Nat.zero_le _, Nat.zero_le _⟩ rfl rfl hcat kl_6 rfl io_0 (c_X8_cnt1 C kk) h5 h6
theorem y_cnt4 (hd : decode ML_law.2.1 pc = .ok (.invokevirtual 115, 3)) (C : CR_ h z) (hcat : pcat_ st ≤ 8) (kk : SL_ b len xs bc bs Q (pc + 3) L ((0, z 1 57) :: st) 202 h) (h5 : nk5_ L = true := by rfl) (h6 : nk5_ st = true := by rfl) : SL_ b len xs bc bs Q pc L ((0, 4) :: (2, 0) :: st) 202 h :=
  e0_callV (d' := 15) (bc' := 0) (bs' := 0) (as := [(0, 4)]) hd vf_L_115 (by decide) ⟨Nat.zero_le _, Nat.zero_le _⟩ rfl rfl hcat kl_6 rfl io_0 (c_X8_cnt4 (by decide) C kk) h5 h6
end LAWR
section LAW
variable {b len : Nat} {xs : Nat → Int32} {bc bs : Nat} {Q : PQ} {h z : PH}
set_option maxRecDepth 100000 in
set_option maxHeartbeats 4000000 in
theorem w_378 {c p7 p8 : Int} {F F2 : Int → Int} (h0 : z 53 0 = 0) (C : CR_ h (zact (zact z F) F2)) (i4 : inI (z 1 57)) (hb : 16 ≤ bc ∧ 96 ≤ bs) (K : ∀ h1 z1 : PH, CR_ h1 z1 → (∀ x : Int, x < 53 → z1 x = z x) → z1 53 0 = 0 → SL_ b len xs (bc - 8 - 8) (bs - 48 - 48) Q 404 [(2, 1399), (2, 0), (9, 0), (9, 0), (9, 0), (0, z 1 57), (0, c), (9, 0), (9, 0)] [] 202 h1) : SL_ b len xs bc bs Q 378 [(2, 1399), (2, 0), (9, 0), (9, 0), (9, 0), (0, z 1 57), (0, c), (0, p7), (0, p8)] [] 202 h := by
  obtain ⟨q1, q2, q3, q4⟩ := zuu (F := F) (F2 := F2) h0
  obtain ⟨j0, j1⟩ := i4
  refine s_aload_n dL_law_378 rfl ?_
  refine y_und dL_law_379 C (by omega) ⟨by omega, by omega⟩ (Nat.le_of_ble_eq_true rfl) (fun _ C379_1 => ?_)
  refine s_if_lt (tgt := 402) dL_law_382 (by decide) ⟨by omega, by omega⟩ (fun c382 => ?_) (fun c382 => ?_)
  · exact absurd c382 (by omega)
  · refine s_aload_n dL_law_385 rfl ?_
    refine y_und dL_law_386 C379_1 (by omega) ⟨by omega, by omega⟩ (Nat.le_of_ble_eq_true rfl) (fun _ C386_2 => ?_)
    refine s_if_lt (tgt := 402) dL_law_389 (by decide) ⟨by omega, by omega⟩ (fun c389 => ?_) (fun c389 => ?_)
    · exact absurd c389 (by omega)
    · refine s_aload_n dL_law_392 rfl ?_
      refine s_iconst dL_law_393 ?_
      refine y_cnt4 dL_law_394 C386_2 (Nat.le_of_ble_eq_true rfl) ?_
      rw [q4 1 (by decide)]
      refine s_iload dL_law_397 rfl ?_
      refine s_icmp_eq (tgt := 404) dL_law_399 (by decide) ⟨by omega, by omega⟩ ⟨by omega, by omega⟩ (fun c399 => ?_) (fun c399 => ?_)
      · refine s_fg (L' := [_, _, (9, 0), (9, 0), (9, 0), _, _, (9, 0), (9, 0)]) ⟨Or.inr rfl, Or.inr rfl, Or.inl rfl, Or.inl rfl, Or.inl rfl, Or.inr rfl, Or.inr rfl, Or.inl rfl, Or.inl rfl, trivial⟩ ?_
        exact K _ _ C386_2 q4 q3
      · exact absurd rfl c399
set_option maxRecDepth 100000 in
set_option maxHeartbeats 4000000 in
theorem w_339 {c p8 : Int} (h0 : z 53 0 = 0) (I : ZI z) (c0 : 0 ≤ c) (c4 : c ≤ 4) (d0 : 0 ≤ zleast z c) (d1 : zleast z c ≤ 99999) (C : CR_ h (zact z (fu_ (z 1) 57 (zleast z c)))) (hb : 64 ≤ bc ∧ 384 ≤ bs) (K : ∀ (bc1 bs1 : Nat) (h1 z1 : PH), bc ≤ bc1 + 64 → bs ≤ bs1 + 384 → CR_ h1 z1 → (∀ x : Int, x < 53 → z1 x = z x) → z1 53 0 = 0 → SL_ b len xs bc1 bs1 Q 404 [(2, 1399), (2, 0), (9, 0), (9, 0), (9, 0), (0, z 1 57), (0, c), (9, 0), (9, 0)] [] 202 h1) : SL_ b len xs bc bs Q 339 [(2, 1399), (2, 0), (9, 0), (9, 0), (9, 0), (0, z 1 57), (0, c), (0, zleast z c), (0, p8)] [] 202 h := by
  have b4 := I.1.2.2.2.1
  have i4 : inI (z 1 57) := ⟨by omega, by omega⟩
  refine s_aload_n dL_law_339 rfl ?_
  refine s_iconst dL_law_340 ?_
  refine s_iconst dL_law_341 ?_
  refine s_iload dL_law_342 rfl ?_
  refine s_iconst dL_law_344 ?_
  refine s_isub dL_law_345 ?_
  refine s_mmax dL_law_346 jm_L_132 ⟨by omega, by omega⟩ ⟨by omega, by omega⟩ (by decide) (Nat.le_of_ble_eq_true rfl) ?_
  refine y_set dL_law_349 C (by omega) (by omega) ⟨by omega, by omega⟩ (Nat.le_of_ble_eq_true rfl) (fun _ C349_1 => ?_)
  have I2 := cr_i C349_1
  refine s_istore dL_law_352 (by decide) rfl (L' := [_, _, _, _, _, _, _, _, _]) rfl ?_
  refine s_iload dL_law_354 rfl ?_
  refine s_if_le (tgt := 378) dL_law_356 (by decide) ⟨by omega, by omega⟩ (fun c356 => ?_) (fun c356 => ?_)
  · exact w_378 h0 C349_1 i4 ⟨by omega, by omega⟩ (fun h1 z1 => K _ _ h1 z1 (by omega) (by omega))
  · have e2 : DB_ z (zact (zact z (fu_ (z 1) 57 (zleast z c))) (fu_ (zact z (fu_ (z 1) 57 (zleast z c)) 1) 57 (max 0 (zleast z c - 1)))) (zleast z c - 1) := by
      refine ⟨by rw [za_1, fu_eq]; omega, fun k hk => by rw [za_1, fu_ne hk, za_1, fu_ne hk], fun x x0 x1 hx => by rw [za_lo hx (by omega), za_lo hx (by omega)]⟩
    have cc := (zleast_is I c0 c4).2.2 (by omega) _ I2 e2
    have cb := zcl_bd I2 c0 (by omega)
    refine s_aload_n dL_law_359 rfl ?_
    refine s_iload dL_law_360 rfl ?_
    refine s_iconst dL_law_362 ?_
    refine y_cls dL_law_363 C349_1 (by omega) (by omega) (by decide) (by decide) ⟨by omega, by omega⟩ (Nat.le_of_ble_eq_true rfl) (fun _ C363_2 => ?_)
    refine s_aload_n dL_law_366 rfl ?_
    refine s_iload dL_law_367 rfl ?_
    refine s_iconst dL_law_369 ?_
    refine y_cls dL_law_370 C363_2 (by omega) (by omega) (by decide) (by decide) ⟨by omega, by omega⟩ (Nat.le_of_ble_eq_true rfl) (fun _ C370_3 => ?_)
    refine s_icmp_eq (tgt := 378) dL_law_373 (by decide) ⟨by omega, by omega⟩ ⟨by omega, by omega⟩ (fun c373 => ?_) (fun c373 => ?_)
    · exact w_378 h0 C370_3 i4 ⟨by omega, by omega⟩ (fun h1 z1 => K _ _ h1 z1 (by omega) (by omega))
    · exact absurd cc c373
set_option maxRecDepth 100000 in
set_option maxHeartbeats 4000000 in
theorem w_311 {c : Int} (h0 : z 53 0 = 0) (c0 : 0 ≤ c) (c4 : c ≤ 4) (d0 : 0 ≤ zleast z c) (d1 : zleast z c ≤ 99999) (C : CR_ h z) (hb : 88 ≤ bc ∧ 528 ≤ bs) (K : ∀ (bc1 bs1 : Nat) (h1 z1 : PH), bc ≤ bc1 + 88 → bs ≤ bs1 + 528 → CR_ h1 z1 → (∀ x : Int, x < 53 → z1 x = z x) → z1 53 0 = 0 → SL_ b len xs bc1 bs1 Q 404 [(2, 1399), (2, 0), (9, 0), (9, 0), (9, 0), (0, z 1 57), (0, c), (9, 0), (9, 0)] [] 202 h1) : SL_ b len xs bc bs Q 311 [(2, 1399), (2, 0), (9, 0), (9, 0), (9, 0), (0, z 1 57), (0, c), (0, zleast z c), (9, 0)] [] 202 h := by
  have I := cr_i C
  refine s_aload_n dL_law_311 rfl ?_
  refine s_iconst dL_law_312 ?_
  refine s_iload dL_law_313 rfl ?_
  refine y_set dL_law_315 C (by omega) (by omega) ⟨by omega, by omega⟩ (Nat.le_of_ble_eq_true rfl) (fun _ C315_1 => ?_)
  have I1 := cr_i C315_1
  have e1 : DB_ z (zact z (fu_ (z 1) 57 (zleast z c))) (zleast z c) := ⟨by rw [za_1, fu_eq], fun k hk => by rw [za_1, fu_ne hk], fun x x0 x1 hx => za_lo hx (by omega)⟩
  have cc := (zleast_is I c0 c4).2.1 d0 _ I1 e1
  have cb := zcl_bd I1 c0 (by omega)
  refine s_istore dL_law_318 (by decide) rfl (L' := [_, _, _, _, _, _, _, _, _]) rfl ?_
  refine s_aload_n dL_law_320 rfl ?_
  refine s_iload dL_law_321 rfl ?_
  refine s_iconst dL_law_323 ?_
  refine y_cls dL_law_324 C315_1 (by omega) (by omega) (by decide) (by decide) ⟨by omega, by omega⟩ (Nat.le_of_ble_eq_true rfl) (fun _ C324_2 => ?_)
  refine s_aload_n dL_law_327 rfl ?_
  refine s_iload dL_law_328 rfl ?_
  refine s_iconst dL_law_330 ?_
  refine y_cls dL_law_331 C324_2 (by omega) (by omega) (by decide) (by decide) ⟨by omega, by omega⟩ (Nat.le_of_ble_eq_true rfl) (fun _ C331_3 => ?_)
  refine s_icmp_lt (tgt := 339) dL_law_334 (by decide) ⟨by omega, by omega⟩ ⟨by omega, by omega⟩ (fun c334 => ?_) (fun c334 => ?_)
  · exact w_339 h0 I c0 c4 d0 d1 C331_3 ⟨by omega, by omega⟩ (fun bc1 bs1 h1 z1 e5 e6 => K bc1 bs1 h1 z1 (by omega) (by omega))
  · exact absurd c334 (by omega)
set_option maxRecDepth 100000 in
set_option maxHeartbeats 4000000 in
theorem l_252 (kq : ∀ h1 : PH, Q.1 (some (0, 1)) 202 h1) : ∀ (m : Nat) (c : Int) (bc bs : Nat) (h z1 : PH), 0 ≤ c → c + m = 5 → CR_ h z1 → z1 53 0 = 0 → 110 * m ≤ bc → 660 * m ≤ bs → SL_ b len xs bc bs Q 252 [(2, 1399), (2, 0), (9, 0), (9, 0), (9, 0), (0, z1 1 57), (0, c), (9, 0), (9, 0)] [] 202 h := by
  intro m
  induction m with
  | zero =>
    intro c bc bs h z1 c0 cm C h0 hbc hbs
    refine s_iload dL_law_252 rfl ?_
    refine s_iconst dL_law_254 ?_
    refine s_icmp_ge (tgt := 410) dL_law_255 (by decide) ⟨by omega, by omega⟩ ⟨by omega, by omega⟩ (fun c255 => ?_) (fun c255 => ?_)
    · refine s_iconst dL_law_410 ?_
      exact s_zreturn dL_law_411 rfl (Or.inr rfl) (kq _)
    · exact absurd c255 (by omega)
  | succ m ih =>
    intro c bc bs h z1 c0 cm C h0 hbc hbs
    have I := cr_i C
    have lb := zle_bd I c0 (by omega)
    have cb := zcl_bd I c0 (by omega)
    have li := (zleast_is I c0 (by omega)).1
    refine s_iload dL_law_252 rfl ?_
    refine s_iconst dL_law_254 ?_
    refine s_icmp_ge (tgt := 410) dL_law_255 (by decide) ⟨by omega, by omega⟩ ⟨by omega, by omega⟩ (fun c255 => ?_) (fun c255 => ?_)
    · exact absurd c255 (by omega)
    · refine s_aload_n dL_law_258 rfl ?_
      refine s_iload dL_law_259 rfl ?_
      refine y_lst dL_law_261 C (by omega) (by omega) ⟨by omega, by omega⟩ (Nat.le_of_ble_eq_true rfl) (fun _ C261_1 => ?_)
      refine s_istore dL_law_264 (by decide) rfl (L' := [_, _, _, _, _, _, _, _, _]) rfl ?_
      refine s_iload dL_law_266 rfl ?_
      refine s_if_ge (tgt := 275) dL_law_268 (by decide) ⟨by omega, by omega⟩ (fun c268 => ?_) (fun c268 => ?_)
      · refine s_iconst dL_law_275 ?_
        refine s_aload_n dL_law_276 rfl ?_
        refine s_iload dL_law_277 rfl ?_
        refine s_iconst dL_law_279 ?_
        refine y_cls dL_law_280 C261_1 (by omega) (by omega) (by decide) (by decide) ⟨by omega, by omega⟩ (Nat.le_of_ble_eq_true rfl) (fun _ C280_2 => ?_)
        refine s_if_ne (tgt := 290) dL_law_283 (by decide) ⟨by omega, by omega⟩ (fun c283 => ?_) (fun c283 => ?_)
        · refine s_iconst dL_law_290 ?_
          refine s_icmp_eq (tgt := 296) dL_law_291 (by decide) ⟨by omega, by omega⟩ ⟨by omega, by omega⟩ (fun c291 => ?_) (fun c291 => ?_)
          · refine s_iload dL_law_296 rfl ?_
            refine s_if_lt (tgt := 404) dL_law_298 (by decide) ⟨by omega, by omega⟩ (fun c298 => ?_) (fun c298 => ?_)
            · exact absurd c298 (by omega)
            · refine s_iload dL_law_301 rfl ?_
              refine s_ldc dL_law_303 kc_L_128 ?_
              refine s_icmp_le (tgt := 311) dL_law_305 (by decide) ⟨by omega, by omega⟩ ⟨by omega, by omega⟩ (fun c305 => ?_) (fun c305 => ?_)
              · refine w_311 h0 c0 (by omega) (by omega) c305 C280_2 ⟨by omega, by omega⟩ (fun bc1 bs1 h1 z2 e5 e6 C9 e9 h9 => ?_)
                rw [← e9 1 (by decide)]
                refine s_iinc dL_law_404 rfl (by decide) rfl (L' := [_, _, _, _, _, _, _, _, _]) rfl ?_
                refine s_goto (tgt := 252) dL_law_407 (by decide) ?_
                exact ih (c + 1) _ _ _ _ (by omega) (by omega) C9 h9 (by omega) (by omega)
              · refine s_goto (tgt := 404) dL_law_308 (by decide) ?_
                refine s_fg (L' := [_, _, (9, 0), (9, 0), (9, 0), _, _, (9, 0), (9, 0)]) ⟨Or.inr rfl, Or.inr rfl, Or.inl rfl, Or.inl rfl, Or.inl rfl, Or.inr rfl, Or.inr rfl, Or.inl rfl, Or.inl rfl, trivial⟩ ?_
                refine s_iinc dL_law_404 rfl (by decide) rfl (L' := [_, _, _, _, _, _, _, _, _]) rfl ?_
                refine s_goto (tgt := 252) dL_law_407 (by decide) ?_
                exact ih (c + 1) _ _ _ _ (by omega) (by omega) C280_2 h0 (by omega) (by omega)
          · exact absurd rfl c291
        · exact absurd (li.mpr c283) (by omega)
      · refine s_iconst dL_law_271 ?_
        refine s_goto (tgt := 276) dL_law_272 (by decide) ?_
        refine s_aload_n dL_law_276 rfl ?_
        refine s_iload dL_law_277 rfl ?_
        refine s_iconst dL_law_279 ?_
        refine y_cls dL_law_280 C261_1 (by omega) (by omega) (by decide) (by decide) ⟨by omega, by omega⟩ (Nat.le_of_ble_eq_true rfl) (fun _ C280_2 => ?_)
        refine s_if_ne (tgt := 290) dL_law_283 (by decide) ⟨by omega, by omega⟩ (fun c283 => ?_) (fun c283 => ?_)
        · exact absurd (li.mp c268) c283
        · refine s_iconst dL_law_286 ?_
          refine s_goto (tgt := 291) dL_law_287 (by decide) ?_
          refine s_icmp_eq (tgt := 296) dL_law_291 (by decide) ⟨by omega, by omega⟩ ⟨by omega, by omega⟩ (fun c291 => ?_) (fun c291 => ?_)
          · refine s_iload dL_law_296 rfl ?_
            refine s_if_lt (tgt := 404) dL_law_298 (by decide) ⟨by omega, by omega⟩ (fun c298 => ?_) (fun c298 => ?_)
            · refine s_fg (L' := [_, _, (9, 0), (9, 0), (9, 0), _, _, (9, 0), (9, 0)]) ⟨Or.inr rfl, Or.inr rfl, Or.inl rfl, Or.inl rfl, Or.inl rfl, Or.inr rfl, Or.inr rfl, Or.inl rfl, Or.inl rfl, trivial⟩ ?_
              refine s_iinc dL_law_404 rfl (by decide) rfl (L' := [_, _, _, _, _, _, _, _, _]) rfl ?_
              refine s_goto (tgt := 252) dL_law_407 (by decide) ?_
              exact ih (c + 1) _ _ _ _ (by omega) (by omega) C280_2 h0 (by omega) (by omega)
            · exact absurd c298 (by omega)
          · exact absurd rfl c291
set_option maxRecDepth 100000 in
set_option maxHeartbeats 4000000 in
theorem t_217L {al : Int} (kq : ∀ h1 : PH, Q.1 (some (0, 1)) 202 h1) (C : CR_ h z) (h0 : z 53 0 = 0) (hb : 600 ≤ bc ∧ 3600 ≤ bs) : SL_ b len xs bc bs Q 217 [(2, 1399), (2, 0), (0, al), (0, zav z - zrs z), (0, zct z), (9, 0), (9, 0), (9, 0), (9, 0)] [] 202 h := by
  have I := cr_i C
  have b1 := zes_bd I
  have b2 := zav_bd I
  have b3 := zrs_bd I
  have b4 := I.1.2.2.2.1
  have b5 := (zcl_cut I).1
  have ev : zav z = max 0 (zes z - z 1 57) := rfl
  have hP := I.2.2.1
  refine s_iload_n dL_law_217 rfl ?_
  refine s_aload_n dL_law_218 rfl ?_
  refine s_bipush dL_law_219 (by decide) ?_
  refine y_est ze_6 dL_law_221 C (by decide) (by decide) ⟨by omega, by omega⟩ (Nat.le_of_ble_eq_true rfl) (fun _ C221_1 => ?_)
  refine s_icmp_ne (tgt := 240) dL_law_224 (by decide) ⟨by omega, by omega⟩ ⟨by omega, by omega⟩ (fun c224 => ?_) (fun c224 => ?_)
  · exact absurd rfl c224
  · refine s_iload dL_law_227 rfl ?_
    refine s_if_lt (tgt := 242) dL_law_229 (by decide) ⟨by omega, by omega⟩ (fun c229 => ?_) (fun c229 => ?_)
    · refine s_aload_n dL_law_242 rfl ?_
      refine s_iconst dL_law_243 ?_
      refine y_cnt4 dL_law_244 C221_1 (Nat.le_of_ble_eq_true rfl) ?_
      refine s_istore dL_law_247 (by decide) rfl (L' := [_, _, _, _, _, _, _, _, _]) rfl ?_
      refine s_iconst dL_law_249 ?_
      refine s_istore dL_law_250 (by decide) rfl (L' := [_, _, _, _, _, _, _, _, _]) rfl ?_
      refine s_fg (L' := [_, _, (9, 0), (9, 0), (9, 0), _, _, (9, 0), (9, 0)]) ⟨Or.inr rfl, Or.inr rfl, Or.inl rfl, Or.inl rfl, Or.inl rfl, Or.inr rfl, Or.inr rfl, Or.inl rfl, Or.inl rfl, trivial⟩ ?_
      exact l_252 kq 5 0 _ _ _ z (by omega) (by omega) C221_1 h0 (by omega) (by omega)
    · refine s_aload_n dL_law_232 rfl ?_
      refine s_iconst dL_law_233 ?_
      refine y_est ze_3 dL_law_234 C221_1 (by decide) (by decide) ⟨by omega, by omega⟩ (Nat.le_of_ble_eq_true rfl) (fun _ C234_2 => ?_)
      refine s_if_eq (tgt := 242) dL_law_237 (by decide) ⟨by omega, by omega⟩ (fun c237 => ?_) (fun c237 => ?_)
      · refine s_aload_n dL_law_242 rfl ?_
        refine s_iconst dL_law_243 ?_
        refine y_cnt4 dL_law_244 C234_2 (Nat.le_of_ble_eq_true rfl) ?_
        refine s_istore dL_law_247 (by decide) rfl (L' := [_, _, _, _, _, _, _, _, _]) rfl ?_
        refine s_iconst dL_law_249 ?_
        refine s_istore dL_law_250 (by decide) rfl (L' := [_, _, _, _, _, _, _, _, _]) rfl ?_
        refine s_fg (L' := [_, _, (9, 0), (9, 0), (9, 0), _, _, (9, 0), (9, 0)]) ⟨Or.inr rfl, Or.inr rfl, Or.inl rfl, Or.inl rfl, Or.inl rfl, Or.inr rfl, Or.inr rfl, Or.inl rfl, Or.inl rfl, trivial⟩ ?_
        exact l_252 kq 5 0 _ _ _ z (by omega) (by omega) C234_2 h0 (by omega) (by omega)
      · exact absurd (by omega) c237
set_option maxRecDepth 100000 in
set_option maxHeartbeats 4000000 in
theorem q_192 {al sm c du go : Int} (ic : inI c) (id : inI du) (ig : inI go) (it : inI (zct z)) (f5 : 0 ≤ zct z → zct z < c → go = 0) (K : SL_ b len xs bc bs Q 211 [(2, 1399), (2, 0), (0, al), (0, sm), (0, zct z), (0, c), (0, du), (0, go), (9, 0)] [] 202 h) : SL_ b len xs bc bs Q 192 [(2, 1399), (2, 0), (0, al), (0, sm), (0, zct z), (0, c), (0, du), (0, go), (9, 0)] [] 202 h := by
  obtain ⟨ic0, ic1⟩ := ic
  obtain ⟨id0, id1⟩ := id
  obtain ⟨ig0, ig1⟩ := ig
  obtain ⟨it0, it1⟩ := it
  refine s_iload dL_law_192 rfl ?_
  refine s_if_lt (tgt := 211) dL_law_194 (by decide) ⟨by omega, by omega⟩ (fun c194 => ?_) (fun c194 => ?_)
  · exact K
  · refine s_iload dL_law_197 rfl ?_
    refine s_iload dL_law_199 rfl ?_
    refine s_icmp_le (tgt := 211) dL_law_201 (by decide) ⟨by omega, by omega⟩ ⟨by omega, by omega⟩ (fun c201 => ?_) (fun c201 => ?_)
    · exact K
    · refine s_iload dL_law_204 rfl ?_
      refine s_if_eq (tgt := 211) dL_law_206 (by decide) ⟨by omega, by omega⟩ (fun c206 => ?_) (fun c206 => ?_)
      · exact K
      · exact absurd (f5 c194 c201) c206
set_option maxRecDepth 100000 in
set_option maxHeartbeats 4000000 in
theorem q_178 {al sm c du go : Int} (ic : inI c) (id : inI du) (ig : inI go) (it : inI (zct z)) (f4 : c = zct z → go < du) (f5 : 0 ≤ zct z → zct z < c → go = 0) (K : SL_ b len xs bc bs Q 211 [(2, 1399), (2, 0), (0, al), (0, sm), (0, zct z), (0, c), (0, du), (0, go), (9, 0)] [] 202 h) : SL_ b len xs bc bs Q 178 [(2, 1399), (2, 0), (0, al), (0, sm), (0, zct z), (0, c), (0, du), (0, go), (9, 0)] [] 202 h := by
  have N := q_192 (b := b) (len := len) (xs := xs) (al := al) (sm := sm) (du := du) ic id ig it f5 K
  obtain ⟨ic0, ic1⟩ := ic
  obtain ⟨id0, id1⟩ := id
  obtain ⟨ig0, ig1⟩ := ig
  obtain ⟨it0, it1⟩ := it
  refine s_iload dL_law_178 rfl ?_
  refine s_iload dL_law_180 rfl ?_
  refine s_icmp_ne (tgt := 192) dL_law_182 (by decide) ⟨by omega, by omega⟩ ⟨by omega, by omega⟩ (fun c182 => ?_) (fun c182 => ?_)
  · exact N
  · refine s_iload dL_law_185 rfl ?_
    refine s_iload dL_law_187 rfl ?_
    refine s_icmp_ge (tgt := 209) dL_law_189 (by decide) ⟨by omega, by omega⟩ ⟨by omega, by omega⟩ (fun c189 => ?_) (fun c189 => ?_)
    · exact absurd (f4 c182) (by omega)
    · exact N
set_option maxRecDepth 100000 in
set_option maxHeartbeats 4000000 in
theorem q_159 {al sm c du go : Int} (ic : inI c) (id : inI du) (ig : inI go) (it : inI (zct z)) (f3 : 0 ≤ zct z → c < zct z → go = du) (f4 : c = zct z → go < du) (f5 : 0 ≤ zct z → zct z < c → go = 0) (K : SL_ b len xs bc bs Q 211 [(2, 1399), (2, 0), (0, al), (0, sm), (0, zct z), (0, c), (0, du), (0, go), (9, 0)] [] 202 h) : SL_ b len xs bc bs Q 159 [(2, 1399), (2, 0), (0, al), (0, sm), (0, zct z), (0, c), (0, du), (0, go), (9, 0)] [] 202 h := by
  have N := q_178 (b := b) (len := len) (xs := xs) (al := al) (sm := sm) ic id ig it f4 f5 K
  obtain ⟨ic0, ic1⟩ := ic
  obtain ⟨id0, id1⟩ := id
  obtain ⟨ig0, ig1⟩ := ig
  obtain ⟨it0, it1⟩ := it
  refine s_iload dL_law_159 rfl ?_
  refine s_if_lt (tgt := 178) dL_law_161 (by decide) ⟨by omega, by omega⟩ (fun c161 => ?_) (fun c161 => ?_)
  · exact N
  · refine s_iload dL_law_164 rfl ?_
    refine s_iload dL_law_166 rfl ?_
    refine s_icmp_ge (tgt := 178) dL_law_168 (by decide) ⟨by omega, by omega⟩ ⟨by omega, by omega⟩ (fun c168 => ?_) (fun c168 => ?_)
    · exact N
    · refine s_iload dL_law_171 rfl ?_
      refine s_iload dL_law_173 rfl ?_
      refine s_icmp_ne (tgt := 209) dL_law_175 (by decide) ⟨by omega, by omega⟩ ⟨by omega, by omega⟩ (fun c175 => ?_) (fun c175 => ?_)
      · exact absurd (f3 c161 c168) c175
      · exact N
set_option maxRecDepth 100000 in
set_option maxHeartbeats 4000000 in
theorem q_140 {al sm c du go : Int} (ic : inI c) (id : inI du) (ig : inI go) (it : inI (zct z)) (f1 : go ≤ du) (f2 : zct z < 0 → go = du) (f3 : 0 ≤ zct z → c < zct z → go = du) (f4 : c = zct z → go < du) (f5 : 0 ≤ zct z → zct z < c → go = 0) (K : SL_ b len xs bc bs Q 211 [(2, 1399), (2, 0), (0, al), (0, sm), (0, zct z), (0, c), (0, du), (0, go), (9, 0)] [] 202 h) : SL_ b len xs bc bs Q 140 [(2, 1399), (2, 0), (0, al), (0, sm), (0, zct z), (0, c), (0, du), (0, go), (9, 0)] [] 202 h := by
  have N := q_159 (b := b) (len := len) (xs := xs) (al := al) (sm := sm) ic id ig it f3 f4 f5 K
  obtain ⟨ic0, ic1⟩ := ic
  obtain ⟨id0, id1⟩ := id
  obtain ⟨ig0, ig1⟩ := ig
  obtain ⟨it0, it1⟩ := it
  refine s_iload dL_law_140 rfl ?_
  refine s_iload dL_law_142 rfl ?_
  refine s_icmp_gt (tgt := 209) dL_law_144 (by decide) ⟨by omega, by omega⟩ ⟨by omega, by omega⟩ (fun c144 => ?_) (fun c144 => ?_)
  · exact absurd c144 (by omega)
  · refine s_iload dL_law_147 rfl ?_
    refine s_if_ge (tgt := 159) dL_law_149 (by decide) ⟨by omega, by omega⟩ (fun c149 => ?_) (fun c149 => ?_)
    · exact N
    · refine s_iload dL_law_152 rfl ?_
      refine s_iload dL_law_154 rfl ?_
      refine s_icmp_ne (tgt := 209) dL_law_156 (by decide) ⟨by omega, by omega⟩ ⟨by omega, by omega⟩ (fun c156 => ?_) (fun c156 => ?_)
      · exact absurd (f2 c149) c156
      · exact N
set_option maxRecDepth 100000 in
set_option maxHeartbeats 4000000 in
theorem l_110 (kq : ∀ h1 : PH, Q.1 (some (0, 1)) 202 h1) (h0 : z 53 0 = 0) : ∀ (m : Nat) (c al : Int) (bc bs : Nat) (h : PH), 0 ≤ c → c + m = 6 → CR_ h z → 16 * m + 600 ≤ bc → 96 * m + 3600 ≤ bs → SL_ b len xs bc bs Q 110 [(2, 1399), (2, 0), (0, al), (0, sumI (fun c => zclassed z c 1) 0 c.toNat), (0, zct z), (0, c), (9, 0), (9, 0), (9, 0)] [] 202 h := by
  intro m
  induction m with
  | zero =>
    intro c al bc bs h c0 cm C hbc hbs
    have I := cr_i C
    have b1 := zes_bd I
    have b2 := zav_bd I
    have b3 := zrs_bd I
    have b4 := I.1.2.2.2.1
    have b5 := (zcl_cut I).1
    have ev : zav z = max 0 (zes z - z 1 57) := rfl
    have hP := I.2.2.1
    refine s_iload dL_law_110 rfl ?_
    refine s_bipush dL_law_112 (by decide) ?_
    refine s_icmp_ge (tgt := 217) dL_law_114 (by decide) ⟨by omega, by omega⟩ ⟨by omega, by omega⟩ (fun c114 => ?_) (fun c114 => ?_)
    · have ec : c = 6 := by omega
      subst ec
      refine s_fg (L' := [_, _, _, _, _, (9, 0), (9, 0), (9, 0), (9, 0)]) ⟨Or.inr rfl, Or.inr rfl, Or.inr rfl, Or.inr rfl, Or.inr rfl, Or.inl rfl, Or.inl rfl, Or.inl rfl, Or.inl rfl, trivial⟩ ?_
      have es : sumI (fun c => zclassed z c 1) 0 (6 : Int).toNat = zav z - zrs z := zcl_sum I
      rw [es]
      exact t_217L kq C h0 ⟨by omega, by omega⟩
    · exact absurd c114 (by omega)
  | succ m ih =>
    intro c al bc bs h c0 cm C hbc hbs
    have I := cr_i C
    have b1 := zes_bd I
    have b2 := zav_bd I
    have b3 := zrs_bd I
    have b4 := I.1.2.2.2.1
    have b5 := (zcl_cut I).1
    have ev : zav z = max 0 (zes z - z 1 57) := rfl
    have hP := I.2.2.1
    have cb := zcl_bd I c0 (by omega)
    obtain ⟨f1, f2, f3, f4, f5⟩ := (zcl_cut I).2 c c0 (by omega)
    refine s_iload dL_law_110 rfl ?_
    refine s_bipush dL_law_112 (by decide) ?_
    refine s_icmp_ge (tgt := 217) dL_law_114 (by decide) ⟨by omega, by omega⟩ ⟨by omega, by omega⟩ (fun c114 => ?_) (fun c114 => ?_)
    · exact absurd c114 (by omega)
    · refine s_aload_n dL_law_117 rfl ?_
      refine s_iload dL_law_118 rfl ?_
      refine s_iconst dL_law_120 ?_
      refine y_cls dL_law_121 C (by omega) (by omega) (by decide) (by decide) ⟨by omega, by omega⟩ (Nat.le_of_ble_eq_true rfl) (fun _ C121_1 => ?_)
      refine s_istore dL_law_124 (by decide) rfl (L' := [_, _, _, _, _, _, _, _, _]) rfl ?_
      refine s_aload_n dL_law_126 rfl ?_
      refine s_iload dL_law_127 rfl ?_
      refine s_iconst dL_law_129 ?_
      refine y_cls dL_law_130 C121_1 (by omega) (by omega) (by decide) (by decide) ⟨by omega, by omega⟩ (Nat.le_of_ble_eq_true rfl) (fun _ C130_2 => ?_)
      refine s_istore dL_law_133 (by decide) rfl (L' := [_, _, _, _, _, _, _, _, _]) rfl ?_
      refine s_iload_n dL_law_135 rfl ?_
      refine s_iload dL_law_136 rfl ?_
      refine s_iadd dL_law_138 ?_
      refine s_istore_n dL_law_139 (by decide) rfl (L' := [_, _, _, _, _, _, _, _, _]) rfl ?_
      refine q_140 (z := z) ⟨by omega, by omega⟩ ⟨by omega, by omega⟩ ⟨by omega, by omega⟩ ⟨by omega, by omega⟩ f1 f2 f3 f4 f5 ?_
      refine s_iinc dL_law_211 rfl (by decide) rfl (L' := [_, _, _, _, _, _, _, _, _]) rfl ?_
      refine s_goto (tgt := 110) dL_law_214 (by decide) ?_
      refine s_fg (L' := [_, _, _, _, _, _, (9, 0), (9, 0), (9, 0)]) ⟨Or.inr rfl, Or.inr rfl, Or.inr rfl, Or.inr rfl, Or.inr rfl, Or.inr rfl, Or.inl rfl, Or.inl rfl, Or.inl rfl, trivial⟩ ?_
      rw [← sumI_up (fun c => zclassed z c 1) c0]
      exact ih (c + 1) al _ _ _ (by omega) (by omega) C130_2 (by omega) (by omega)
set_option maxRecDepth 100000 in
set_option maxHeartbeats 4000000 in
theorem t_80 {p : Int} (kq : ∀ h1 : PH, Q.1 (some (0, 1)) 202 h1) (C : CR_ h z) (h0 : z 53 0 = 0) (hb : 800 ≤ bc ∧ 4800 ≤ bs) : SL_ b len xs bc bs Q 80 [(2, 1399), (2, 0), (0, sumI (fun p => zta z p) 0 (z 0 1).toNat), (0, p), (9, 0), (9, 0), (9, 0), (9, 0), (9, 0)] [] 202 h := by
  have I := cr_i C
  have b1 := zes_bd I
  have b2 := zav_bd I
  have b3 := zrs_bd I
  have b4 := I.1.2.2.2.1
  have b5 := (zcl_cut I).1
  have ev : zav z = max 0 (zes z - z 1 57) := rfl
  have hP := I.2.2.1
  have tz := zta_sum I
  refine s_iload_n dL_law_80 rfl ?_
  refine s_aload_n dL_law_81 rfl ?_
  refine s_iconst dL_law_82 ?_
  refine y_est ze_5 dL_law_83 C (by decide) (by decide) ⟨by omega, by omega⟩ (Nat.le_of_ble_eq_true rfl) (fun _ C83_1 => ?_)
  refine s_iadd dL_law_86 ?_
  refine s_aload_n dL_law_87 rfl ?_
  refine s_iconst dL_law_88 ?_
  refine y_est ze_1 dL_law_89 C83_1 (by decide) (by decide) ⟨by omega, by omega⟩ (Nat.le_of_ble_eq_true rfl) (fun _ C89_2 => ?_)
  refine s_icmp_eq (tgt := 97) dL_law_92 (by decide) ⟨by omega, by omega⟩ ⟨by omega, by omega⟩ (fun c92 => ?_) (fun c92 => ?_)
  · refine s_iconst dL_law_97 ?_
    refine s_istore_n dL_law_98 (by decide) rfl (L' := [_, _, _, _, _, _, _, _, _]) rfl ?_
    refine s_aload_n dL_law_99 rfl ?_
    refine s_bipush dL_law_100 (by decide) ?_
    refine y_est ze_7 dL_law_102 C89_2 (by decide) (by decide) ⟨by omega, by omega⟩ (Nat.le_of_ble_eq_true rfl) (fun _ C102_3 => ?_)
    refine s_istore dL_law_105 (by decide) rfl (L' := [_, _, _, _, _, _, _, _, _]) rfl ?_
    refine s_iconst dL_law_107 ?_
    refine s_istore dL_law_108 (by decide) rfl (L' := [_, _, _, _, _, _, _, _, _]) rfl ?_
    exact l_110 kq h0 6 0 _ _ _ _ (by omega) (by omega) C102_3 (by omega) (by omega)
  · exact absurd tz c92
set_option maxRecDepth 100000 in
set_option maxHeartbeats 4000000 in
theorem l_56 (kq : ∀ h1 : PH, Q.1 (some (0, 1)) 202 h1) (h0 : z 53 0 = 0) : ∀ (m : Nat) (p : Int) (bc bs : Nat) (h : PH), 0 ≤ p → p + m = z 0 1 → CR_ h z → 8 * m + 800 ≤ bc → 48 * m + 4800 ≤ bs → SL_ b len xs bc bs Q 56 [(2, 1399), (2, 0), (0, sumI (fun p => zta z p) 0 p.toNat), (0, p), (9, 0), (9, 0), (9, 0), (9, 0), (9, 0)] [] 202 h := by
  intro m
  induction m with
  | zero =>
    intro p bc bs h p0 pm C hbc hbs
    have I := cr_i C
    have b1 := zes_bd I
    have b2 := zav_bd I
    have b3 := zrs_bd I
    have b4 := I.1.2.2.2.1
    have b5 := (zcl_cut I).1
    have ev : zav z = max 0 (zes z - z 1 57) := rfl
    have hP := I.2.2.1
    refine s_iload_n dL_law_56 rfl ?_
    refine s_aload_n dL_law_57 rfl ?_
    refine s_iconst dL_law_58 ?_
    refine y_cnt1 dL_law_59 C (Nat.le_of_ble_eq_true rfl) ?_
    refine s_icmp_ge (tgt := 80) dL_law_62 (by decide) ⟨by omega, by omega⟩ ⟨by omega, by omega⟩ (fun c62 => ?_) (fun c62 => ?_)
    · have ec : p = z 0 1 := by omega
      subst ec
      exact t_80 kq C h0 ⟨by omega, by omega⟩
    · exact absurd c62 (by omega)
  | succ m ih =>
    intro p bc bs h p0 pm C hbc hbs
    have I := cr_i C
    have b1 := zes_bd I
    have b2 := zav_bd I
    have b3 := zrs_bd I
    have b4 := I.1.2.2.2.1
    have b5 := (zcl_cut I).1
    have ev : zav z = max 0 (zes z - z 1 57) := rfl
    have hP := I.2.2.1
    refine s_iload_n dL_law_56 rfl ?_
    refine s_aload_n dL_law_57 rfl ?_
    refine s_iconst dL_law_58 ?_
    refine y_cnt1 dL_law_59 C (Nat.le_of_ble_eq_true rfl) ?_
    refine s_icmp_ge (tgt := 80) dL_law_62 (by decide) ⟨by omega, by omega⟩ ⟨by omega, by omega⟩ (fun c62 => ?_) (fun c62 => ?_)
    · exact absurd c62 (by omega)
    · refine s_iload_n dL_law_65 rfl ?_
      refine s_aload_n dL_law_66 rfl ?_
      refine s_iload_n dL_law_67 rfl ?_
      refine s_iconst dL_law_68 ?_
      refine y_tkn dL_law_69 C (by omega) (by omega) ⟨by omega, by omega⟩ (Nat.le_of_ble_eq_true rfl) (fun _ C69_1 => ?_)
      refine s_iadd dL_law_72 ?_
      refine s_istore_n dL_law_73 (by decide) rfl (L' := [_, _, _, _, _, _, _, _, _]) rfl ?_
      refine s_iinc dL_law_74 rfl (by decide) rfl (L' := [_, _, _, _, _, _, _, _, _]) rfl ?_
      refine s_goto (tgt := 56) dL_law_77 (by decide) ?_
      rw [← sumI_up (fun p => zta z p) p0]
      exact ih (p + 1) _ _ _ (by omega) (by omega) C69_1 (by omega) (by omega)
set_option maxRecDepth 100000 in
set_option maxHeartbeats 4000000 in
theorem lw_law (hl : len ≤ 3072) (hv : VV_ 0 0 0 0 yz_) (kq : ∀ h1 : PH, Q.1 (some (0, 1)) 202 h1) : SL_ b len xs 600086 7301441 Q 0 [(2, 1399), (9, 0), (9, 0), (9, 0), (9, 0), (9, 0), (9, 0), (9, 0), (9, 0)] [] 0 (hI_ []) := by
  refine s_aload_n dL_law_0 rfl ?_
  refine eL_callS (d' := 15) (bc' := 2000) (bs' := 8000) (as := [_]) dL_law_1 sf_L_108 (by decide) (by decide) rfl rfl (Nat.le_of_ble_eq_true rfl) ?_
  refine c_L_house hl hv (Nat.le_refl _) (Nat.le_refl _) (fun h z C h0 => ?_)
  refine s_astore_n dL_law_4 (by decide) rfl (L' := [_, _, _, _, _, _, _, _, _]) rfl ?_
  have I := cr_i C
  have b1 := zes_bd I
  have b2 := zav_bd I
  have b3 := zrs_bd I
  have b4 := I.1.2.2.2.1
  have b5 := (zcl_cut I).1
  have ev : zav z = max 0 (zes z - z 1 57) := rfl
  have hP := I.2.2.1
  refine s_aload_n dL_law_5 rfl ?_
  refine s_bipush dL_law_6 (by decide) ?_
  refine y_est ze_6 dL_law_8 C (by decide) (by decide) ⟨by omega, by omega⟩ (Nat.le_of_ble_eq_true rfl) (fun _ C8_1 => ?_)
  refine s_aload_n dL_law_11 rfl ?_
  refine s_iconst dL_law_12 ?_
  refine y_est ze_3 dL_law_13 C8_1 (by decide) (by decide) ⟨by omega, by omega⟩ (Nat.le_of_ble_eq_true rfl) (fun _ C13_2 => ?_)
  refine s_iadd dL_law_16 ?_
  refine s_aload_n dL_law_17 rfl ?_
  refine s_iconst dL_law_18 ?_
  refine y_est ze_1 dL_law_19 C13_2 (by decide) (by decide) ⟨by omega, by omega⟩ (Nat.le_of_ble_eq_true rfl) (fun _ C19_3 => ?_)
  refine s_icmp_ne (tgt := 50) dL_law_22 (by decide) ⟨by omega, by omega⟩ ⟨by omega, by omega⟩ (fun c22 => ?_) (fun c22 => ?_)
  · exact absurd (by omega) c22
  · refine s_aload_n dL_law_25 rfl ?_
    refine s_iconst dL_law_26 ?_
    refine y_est ze_0 dL_law_27 C19_3 (by decide) (by decide) ⟨by omega, by omega⟩ (Nat.le_of_ble_eq_true rfl) (fun _ C27_4 => ?_)
    refine s_aload_n dL_law_30 rfl ?_
    refine s_iconst dL_law_31 ?_
    refine y_cnt4 dL_law_32 C27_4 (Nat.le_of_ble_eq_true rfl) ?_
    refine s_isub dL_law_35 ?_
    refine s_aload_n dL_law_36 rfl ?_
    refine s_iconst dL_law_37 ?_
    refine y_est ze_1 dL_law_38 C27_4 (by decide) (by decide) ⟨by omega, by omega⟩ (Nat.le_of_ble_eq_true rfl) (fun _ C38_5 => ?_)
    refine s_aload_n dL_law_41 rfl ?_
    refine s_iconst dL_law_42 ?_
    refine y_est ze_2 dL_law_43 C38_5 (by decide) (by decide) ⟨by omega, by omega⟩ (Nat.le_of_ble_eq_true rfl) (fun _ C43_6 => ?_)
    refine s_isub dL_law_46 ?_
    refine s_icmp_eq (tgt := 52) dL_law_47 (by decide) ⟨by omega, by omega⟩ ⟨by omega, by omega⟩ (fun c47 => ?_) (fun c47 => ?_)
    · refine s_iconst dL_law_52 ?_
      refine s_istore_n dL_law_53 (by decide) rfl (L' := [_, _, _, _, _, _, _, _, _]) rfl ?_
      refine s_iconst dL_law_54 ?_
      refine s_istore_n dL_law_55 (by decide) rfl (L' := [_, _, _, _, _, _, _, _, _]) rfl ?_
      exact l_56 kq h0 (z 0 1).toNat 0 _ _ _ (by omega) (by omega) C43_6 (by omega) (by omega)
    · exact absurd (by omega) c47
end LAW
