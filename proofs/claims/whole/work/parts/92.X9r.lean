/-! the reference reads: what was told ahead -/
/-- a name: one to six small letters, no keyword -/
def nk_ (f : Int → Int) (l : Int) : Prop := (1 ≤ l ∧ l ≤ 6) ∧ lq_ f l.toNat ∧ wi_ f 0 l = 23
/-- what was told so far is y -/
def LN_ (y h : PH) : Prop := (h 196 19 = y 0 0 ∧ h 196 20 = y 0 1 ∧ h 196 21 = y 0 2) ∧ (∀ k : Int, 0 ≤ k → k < 61 → h (196 + 10) k = y 1 (pm_ k)) ∧
  (∀ t : Int, 0 ≤ t → t < y 0 0 → h (196 + 11) t = ec_ (y (20 + t)) (y 10 t).toNat) ∧ (∀ p : Int, 0 ≤ p → p < y 0 1 → h (196 + 12) p = ec_ (y (30 + p)) (y 11 p).toNat) ∧
  (∀ p : Int, 0 ≤ p → p < y 0 1 → h (196 + 13) p = y 2 p ∧ h (196 + 14) p = y 3 p) ∧ (∀ g v : Int, 0 ≤ g → g < y 0 2 → 0 ≤ v → v < 5 → h (196 + 15) (5 * g + v) = y (5 + v) g) ∧
  YI_ (y 0 1) y ∧ (∀ t : Int, 0 ≤ t → t < y 0 0 → nk_ (y (20 + t)) (y 10 t)) ∧ (∀ p : Int, 0 ≤ p → p < y 0 1 → nk_ (y (30 + p)) (y 11 p))
theorem ln_aw {y h h1 : PH} (P : LN_ y h) (f : AW_ h h1) : LN_ y h1 := by
  obtain ⟨⟨a1, a2, a3⟩, a4, a5, a6, a7, a8, a9⟩ := P
  exact ⟨⟨by rw [f _ _ (by omega)]; exact a1, by rw [f _ _ (by omega)]; exact a2, by rw [f _ _ (by omega)]; exact a3⟩, fun k p q => by rw [f _ _ (by omega)]; exact a4 k p q, fun k p q => by rw [f _ _ (by omega)]; exact a5 k p q, fun k p q => by rw [f _ _ (by omega)]; exact a6 k p q, fun k p q => by rw [f _ _ (by omega), f _ _ (by omega)]; exact a7 k p q, fun g v p q r s => by rw [f _ _ (by omega)]; exact a8 g v p q r s, a9⟩
theorem ln_c {y h : PH} (P : LN_ y h) : (0 ≤ y 0 0 ∧ y 0 0 ≤ 8) ∧ (0 ≤ y 0 1 ∧ y 0 1 ≤ 12) ∧ (0 ≤ y 0 2 ∧ y 0 2 ≤ 12) := P.2.2.2.2.2.2.1.2.1
theorem wi_congr {T f : Int → Int} {s l : Int} (e : ∀ k : Int, 0 ≤ k → k < l → T (s + k) = f k) : wi_ T s l = wi_ f 0 l := by
  have q : iw_ T s l = iw_ f 0 l := by
    funext j
    refine propext ⟨fun a => ⟨a.1, fun k k0 k1 => ?_⟩, fun a => ⟨a.1, fun k k0 k1 => ?_⟩⟩
    · rw [show (0 : Int) + k = k by omega, ← e k k0 k1]
      exact a.2 k k0 k1
    · have w := a.2 k k0 k1
      rw [show (0 : Int) + k = k by omega] at w
      rw [e k k0 k1]
      exact w
  unfold wi_
  rw [q]
/-- names equal where their codes are -/
theorem nc_iff {T f : Int → Int} {n a l : Int} (N : nk_ f l) : ec_ f l.toNat = nc_ T n a ↔ (l = wl__ T n a ∧ ∀ k : Int, 0 ≤ k → k < wl__ T n a → f k = T (nb_ T n a + k)) := by
  obtain ⟨n1, n2, n3⟩ := N
  constructor
  · intro e
    by_cases c : okU T n a
    · unfold nc_ at e
      rw [iC_t c] at e
      have q := ec_inj l.toNat (wl__ T n a).toNat n2 we_lq e
      have c1 := c.1
      refine ⟨by omega, fun k k0 k1 => q.2 k k0 (by omega)⟩
    · unfold nc_ at e
      rw [iC_f c] at e
      have q := (ec_nn l.toNat n2).2 (by omega)
      omega
  · intro e
    have c : okU T n a := by
      refine ⟨by omega, by omega, ?_⟩
      rw [wi_congr (f := f) (fun k k0 k1 => (e.2 k k0 k1).symm), ← e.1]
      exact n3
    unfold nc_
    rw [iC_t c, ← e.1]
    exact ec_congr l.toNat (fun j j0 j1 => e.2 j j0 (by omega))
theorem nc_in {T : Int → Int} {n a : Int} : inI (nc_ T n a) := by
  unfold nc_
  by_cases c : okU T n a
  · rw [iC_t c]
    have c2 := c.2.1
    exact ec_in we_lq (by omega)
  · rw [iC_f c]
    exact ⟨by omega, by omega⟩
theorem nc_0 {T : Int → Int} {n a : Int} : nc_ T n a = 0 ↔ ¬ okU T n a := by
  unfold nc_
  by_cases c : okU T n a
  · rw [iC_t c]
    have c1 := c.1
    have q := (ec_nn (f := fun k => T (nb_ T n a + k)) (wl__ T n a).toNat we_lq).2 (by omega)
    exact ⟨fun e => by omega, fun e => absurd c e⟩
  · rw [iC_f c]
    exact ⟨fun _ => c, fun _ => rfl⟩
theorem fT_ {y h : PH} {T : Int → Int} {n a : Int} (P : LN_ y h) : fd_ (fun i => h (196 + 11) i = nc_ T n a) (y 0 0).toNat 0 = tT y T n a := by
  refine fd_congr _ _ (fun j j0 j1 => ?_)
  rw [P.2.2.1 j j0 (by omega)]
  exact nc_iff (P.2.2.2.2.2.2.2.1 j j0 (by omega))
theorem fP_ {y h : PH} {T : Int → Int} {n a : Int} (P : LN_ y h) : fd_ (fun i => h (196 + 12) i = nc_ T n a) (y 0 1).toNat 0 = tP y T n a := by
  refine fd_congr _ _ (fun j j0 j1 => ?_)
  rw [P.2.2.2.1 j j0 (by omega)]
  exact nc_iff (P.2.2.2.2.2.2.2.2 j j0 (by omega))
section X9R
variable {d bc bs : Nat} {Q : PQ} {h h0 y : PH} {n a f : Int} {T : Int → Int}
set_option maxRecDepth 100000 in
set_option maxHeartbeats 4000000 in
theorem c_X9_personHere  (hd : 8 ≤ d) (S : OK9 n T h0 a h) (P : LN_ y h0) (k : ¬ tP y T n a = -1 → ∀ h1 : PH, OK9 n T h0 (wn_ T n a) h1 → h1 196 16 = wn_ T n a → Q.1 (some (0, tP y T n a)) nN h1) (k1 : tP y T n a = -1 → ∀ h1 : PH, WR9 n T h0 (nb_ T n a) h1 → Q.1 (some (0, 0)) nN h1) : Cl_ yX9_personHere MX9_personHere d bc bs [(2, 196)] nN h Q := by
  refine s_enter pn_X9 rfl (Nat.le_of_ble_eq_true rfl) (L := [(2, _), (9, 0)]) rfl ?_
  have hG := S.1.1
  have ab := ok_0 S
  have nb0 := nb_0 S
  have ok := S.2.2.1
  have PH_ := ln_aw P S.2.1
  have yc := ln_c P
  have wle : wl__ T n a = wn_ T n a - nb_ T n a := rfl
  have tpb := tP_bd y T n a
  refine s_aload_n dX9_personHere_0 rfl ?_
  refine s_getr dX9_personHere_1 fl_X9_49 kl_7 (by decide) rfl io_196 (z := 24) rfl (rf_7_24 hG.1 io_196) (rk_7_24 io_196).1 ?_
  refine s_aload_n dX9_personHere_4 rfl ?_
  refine s_geti dX9_personHere_5 fl_X9_204 kl_7 (by decide) rfl io_196 (z := 20) rfl ?_
  refine s_aload_n dX9_personHere_8 rfl ?_
  refine s_callV (d' := d - 1) (bc' := 0) (bs' := 0) (as := []) dX9_personHere_9 vf_X9_201 (dd_ (by omega) (by decide)) ⟨Nat.zero_le _, Nat.zero_le _⟩ rfl rfl (Nat.le_of_ble_eq_true rfl) kl_7 rfl io_196 ?_
  refine c_X9_nameHere (by omega) S (fun h1 S1 e1 => ?_)
  have hG1 := S1.1.1
  have hG := hG1
  have ok1 := S1.2.2.1
  have P1 := ln_aw P S1.2.1
  have nci := nc_in (T := T) (n := n) (a := a)
  rw [PH_.1.2.1]
  refine s_callS (d' := d - 1) (bc' := 0) (bs' := 0) (as := [_, _, _]) dX9_personHere_12 sf_X9_207 (dd_ (by omega) (by decide)) ⟨Nat.zero_le _, Nat.zero_le _⟩ rfl rfl (Nat.le_of_ble_eq_true rfl) ?_
  refine c_X9_find (N := 12) (rk_7_24 io_196) hG1 (by decide) (by omega) (by omega) nci ?_
  rw [fP_ P1]
  refine s_istore_n dX9_personHere_15 (by decide) rfl (L' := [_, _]) rfl ?_
  refine s_aload_n dX9_personHere_16 rfl ?_
  refine s_callV (d' := d - 1) (bc' := 0) (bs' := 0) (as := []) dX9_personHere_17 vf_X9_114 (dd_ (by omega) (by decide)) ⟨Nat.zero_le _, Nat.zero_le _⟩ rfl rfl (Nat.le_of_ble_eq_true rfl) kl_7 rfl io_196 ?_
  refine c_X9_isWrong hG1 ?_
  refine s_if_ne (tgt := 28) dX9_personHere_20 (by decide) (by first | exact hG1.2 _ _ | exact hG.2 _ _ | exact b01_in _ | assumption | exact ⟨by omega, by omega⟩) (fun c1 => ?_) (fun c1 => ?_)
  · exact absurd ok1 (b01_n.mp c1)
  · have c1 := b01_0.mp c1
    refine s_iload_n dX9_personHere_23 rfl ?_
    refine s_iconst dX9_personHere_24 ?_
    refine s_icmp_ne (tgt := 38) dX9_personHere_25 (by decide) (by first | exact hG1.2 _ _ | exact hG.2 _ _ | exact b01_in _ | assumption | exact ⟨by omega, by omega⟩) (by first | exact hG1.2 _ _ | exact hG.2 _ _ | exact b01_in _ | assumption | exact ⟨by omega, by omega⟩) (fun c2 => ?_) (fun c2 => ?_)
    · refine s_aload_n dX9_personHere_38 rfl ?_
      refine s_dup dX9_personHere_39 rfl ?_
      refine s_geti dX9_personHere_40 fl_X9_104 kl_7 (by decide) rfl io_196 (z := 16) rfl ?_
      rw [e1]
      refine s_aload_n dX9_personHere_43 rfl ?_
      refine s_callV (d' := d - 1) (bc' := 0) (bs' := 0) (as := []) dX9_personHere_44 vf_X9_118 (dd_ (by omega) (by decide)) ⟨Nat.zero_le _, Nat.zero_le _⟩ rfl rfl (Nat.le_of_ble_eq_true rfl) kl_7 rfl io_196 ?_
      refine c_X9_wordLong (by omega) S1.1 (fun h2 R2 f2 e2 => ?_)
      have hG2 := R2.1
      rw [ok_wl S1]
      refine s_iadd dX9_personHere_47 ?_
      refine s_putiG 16 dX9_personHere_48 fl_X9_104 kl_7 (by decide) rfl rfl io_196 (z := 16) rfl (by decide +kernel) hG2 (by first | exact hG2.2 _ _ | exact hG.2 _ _ | exact b01_in _ | assumption | exact ⟨by omega, by omega⟩) (fun hG3 => ?_)
      refine s_iload_n dX9_personHere_51 rfl ?_
      have e9 : hs_ h2 196 16 (nb_ T n a + wl__ T n a) 196 16 = wn_ T n a := by rw [hs_eq]; omega
      have at9 : AT_ h2 (hs_ h2 196 16 (nb_ T n a + wl__ T n a)) := fun x y c => hs_ne _ c
      have S9 := ok_go (ok_at S1 R2 f2 e2) (rn_at R2 hG3 at9 (by rw [e9]; omega)) (at_aw at9) ((at9 _ _ (by omega)).trans ((f2 _ _ (by omega)).trans ok1)) e9
      exact s_ireturn dX9_personHere_52 rfl (k (by omega) _ S9 e9)
    · refine s_aload_n dX9_personHere_28 rfl ?_
      refine s_aload_n dX9_personHere_29 rfl ?_
      refine s_geti dX9_personHere_30 fl_X9_104 kl_7 (by decide) rfl io_196 (z := 16) rfl ?_
      refine s_callV (d' := d - 1) (bc' := 0) (bs' := 0) (as := [_]) dX9_personHere_33 vf_X9_137 (dd_ (by omega) (by decide)) ⟨Nat.zero_le _, Nat.zero_le _⟩ rfl rfl (Nat.le_of_ble_eq_true rfl) kl_7 rfl io_196 ?_
      refine c_X9_wrong hG1 (by first | exact hG1.2 _ _ | exact ⟨by omega, by omega⟩) (fun hW gW fW eW => ?_)
      have hG4 := gW
      refine s_iconst dX9_personHere_36 ?_
      rw [if_pos ok1] at eW
      have SW := wr_of S1 gW (fun x y c => fW x y (by omega)) (fW _ _ (by omega)) (eW.trans e1) nb0.1 (by omega)
      exact s_ireturn dX9_personHere_37 rfl (k1 (by omega) hW SW)
set_option maxRecDepth 100000 in
set_option maxHeartbeats 4000000 in
theorem kw_X9_personHere  (hd : 3 ≤ d) (S : WR9 n T h0 f h) (P : LN_ y h0) (k : ∀ h1 : PH, WR9 n T h0 f h1 → Q.1 (some (0, 0)) nN h1) : Cl_ yX9_personHere MX9_personHere d bc bs [(2, 196)] nN h Q := by
  refine s_enter pn_X9 rfl (Nat.le_of_ble_eq_true rfl) (L := [(2, _), (9, 0)]) rfl ?_
  have hG := S.1.1
  have fb := S.2.2.2
  have ok : ¬ h 196 17 = -1 := by have := S.2.2.1; omega
  have PH_ := ln_aw P S.2.1
  have yc := ln_c P
  refine s_aload_n dX9_personHere_0 rfl ?_
  refine s_getr dX9_personHere_1 fl_X9_49 kl_7 (by decide) rfl io_196 (z := 24) rfl (rf_7_24 hG.1 io_196) (rk_7_24 io_196).1 ?_
  refine s_aload_n dX9_personHere_4 rfl ?_
  refine s_geti dX9_personHere_5 fl_X9_204 kl_7 (by decide) rfl io_196 (z := 20) rfl ?_
  refine s_aload_n dX9_personHere_8 rfl ?_
  refine s_callV (d' := d - 1) (bc' := 0) (bs' := 0) (as := []) dX9_personHere_9 vf_X9_201 (dd_ (by omega) (by decide)) ⟨Nat.zero_le _, Nat.zero_le _⟩ rfl rfl (Nat.le_of_ble_eq_true rfl) kl_7 rfl io_196 ?_
  refine kw_X9_nameHere (by omega) S (fun h1 S1 => ?_)
  have hG1 := S1.1.1
  have hG := hG1
  have ok1 : ¬ h1 196 17 = -1 := by have e := S1.2.2.1; have b := S1.2.2.2; omega
  have P1 := ln_aw P S1.2.1
  rw [PH_.1.2.1]
  refine s_callS (d' := d - 1) (bc' := 0) (bs' := 0) (as := [_, _, _]) dX9_personHere_12 sf_X9_207 (dd_ (by omega) (by decide)) ⟨Nat.zero_le _, Nat.zero_le _⟩ rfl rfl (Nat.le_of_ble_eq_true rfl) ?_
  refine c_X9_find (N := 12) (rk_7_24 io_196) hG1 (by decide) (by omega) (by omega) ⟨by decide, by decide⟩ ?_
  refine s_istore_n dX9_personHere_15 (by decide) rfl (L' := [_, _]) rfl ?_
  refine s_aload_n dX9_personHere_16 rfl ?_
  refine s_callV (d' := d - 1) (bc' := 0) (bs' := 0) (as := []) dX9_personHere_17 vf_X9_114 (dd_ (by omega) (by decide)) ⟨Nat.zero_le _, Nat.zero_le _⟩ rfl rfl (Nat.le_of_ble_eq_true rfl) kl_7 rfl io_196 ?_
  refine c_X9_isWrong hG1 ?_
  refine s_if_ne (tgt := 28) dX9_personHere_20 (by decide) (by first | exact hG1.2 _ _ | exact hG.2 _ _ | exact b01_in _ | assumption | exact ⟨by omega, by omega⟩) (fun c1 => ?_) (fun c1 => ?_)
  · have c1 := b01_n.mp c1
    refine s_aload_n dX9_personHere_28 rfl ?_
    refine s_aload_n dX9_personHere_29 rfl ?_
    refine s_geti dX9_personHere_30 fl_X9_104 kl_7 (by decide) rfl io_196 (z := 16) rfl ?_
    refine s_callV (d' := d - 1) (bc' := 0) (bs' := 0) (as := [_]) dX9_personHere_33 vf_X9_137 (dd_ (by omega) (by decide)) ⟨Nat.zero_le _, Nat.zero_le _⟩ rfl rfl (Nat.le_of_ble_eq_true rfl) kl_7 rfl io_196 ?_
    refine c_X9_wrong hG1 (by first | exact hG1.2 _ _ | exact ⟨by omega, by omega⟩) (fun hW gW fW eW => ?_)
    have hG2 := gW
    refine s_iconst dX9_personHere_36 ?_
    rw [if_neg ok1] at eW
    have SW := wr_wr S1 gW fW eW
    exact s_ireturn dX9_personHere_37 rfl (k hW SW)
  · exact absurd (b01_0.mp c1) (fun q => q ok1)
set_option maxRecDepth 100000 in
set_option maxHeartbeats 4000000 in
theorem c1_X9_freshName  (hd : 8 ≤ d) (S : OK9 n T h0 a h) (P : LN_ y h0) (k : okU T n a → tP y T n a = -1 → ∀ h1 : PH, OK9 n T h0 (wn_ T n a) h1 → h1 196 16 = wn_ T n a → Q.1 (some (0, nc_ T n a)) nN h1) (k1 : ¬ (okU T n a ∧ tP y T n a = -1) → ∀ h1 : PH, WR9 n T h0 (nb_ T n a) h1 → Q.1 (some (0, 0)) nN h1) : Cl_ yX9_freshName MX9_freshName d bc bs [(2, 196), (0, 1)] nN h Q := by
  refine s_enter pn_X9 rfl (Nat.le_of_ble_eq_true rfl) (L := [(2, _), (0, _), (9, 0), (9, 0)]) rfl ?_
  have hG := S.1.1
  have ab := ok_0 S
  have nb0 := nb_0 S
  have ok := S.2.2.1
  have PH_ := ln_aw P S.2.1
  have yc := ln_c P
  have wle : wl__ T n a = wn_ T n a - nb_ T n a := rfl
  have tpb := tP_bd y T n a
  have n0 := nc_0 (T := T) (n := n) (a := a)
  refine s_aload_n dX9_freshName_0 rfl ?_
  refine s_callV (d' := d - 1) (bc' := 0) (bs' := 0) (as := []) dX9_freshName_1 vf_X9_201 (dd_ (by omega) (by decide)) ⟨Nat.zero_le _, Nat.zero_le _⟩ rfl rfl (Nat.le_of_ble_eq_true rfl) kl_7 rfl io_196 ?_
  refine c_X9_nameHere (by omega) S (fun h1 S1 e1 => ?_)
  have hG1 := S1.1.1
  have hG := hG1
  have ok1 := S1.2.2.1
  have P1 := ln_aw P S1.2.1
  have nci := nc_in (T := T) (n := n) (a := a)
  refine s_istore_n dX9_freshName_4 (by decide) rfl (L' := [_, _, _, _]) rfl ?_
  refine s_iload_n dX9_freshName_5 rfl ?_
  refine s_if_eq (tgt := 24) dX9_freshName_6 (by decide) (by first | exact hG1.2 _ _ | exact hG.2 _ _ | exact b01_in _ | assumption | exact ⟨by omega, by omega⟩) (fun c1 => ?_) (fun c1 => ?_)
  · exact absurd c1 (by decide)
  · refine s_aload_n dX9_freshName_9 rfl ?_
    refine s_getr dX9_freshName_10 fl_X9_49 kl_7 (by decide) rfl io_196 (z := 24) rfl (rf_7_24 hG1.1 io_196) (rk_7_24 io_196).1 ?_
    refine s_aload_n dX9_freshName_13 rfl ?_
    refine s_geti dX9_freshName_14 fl_X9_204 kl_7 (by decide) rfl io_196 (z := 20) rfl ?_
    refine s_iload_n dX9_freshName_17 rfl ?_
    refine s_callS (d' := d - 1) (bc' := 0) (bs' := 0) (as := [_, _, _]) dX9_freshName_18 sf_X9_207 (dd_ (by omega) (by decide)) ⟨Nat.zero_le _, Nat.zero_le _⟩ rfl rfl (Nat.le_of_ble_eq_true rfl) ?_
    rw [P1.1.2.1]
    refine c_X9_find (N := 12) (rk_7_24 io_196) hG1 (by decide) (by omega) (by omega) nci ?_
    rw [fP_ P1]
    refine s_goto (tgt := 36) dX9_freshName_21 (by decide) ?_
    refine s_istore_n dX9_freshName_36 (by decide) rfl (L' := [_, _, _, _]) rfl ?_
    refine s_iload_n dX9_freshName_37 rfl ?_
    refine s_if_eq (tgt := 46) dX9_freshName_38 (by decide) (by first | exact hG1.2 _ _ | exact hG.2 _ _ | exact b01_in _ | assumption | exact ⟨by omega, by omega⟩) (fun c2 => ?_) (fun c2 => ?_)
    · refine s_aload_n dX9_freshName_46 rfl ?_
      refine s_aload_n dX9_freshName_47 rfl ?_
      refine s_geti dX9_freshName_48 fl_X9_104 kl_7 (by decide) rfl io_196 (z := 16) rfl ?_
      refine s_callV (d' := d - 1) (bc' := 0) (bs' := 0) (as := [_]) dX9_freshName_51 vf_X9_137 (dd_ (by omega) (by decide)) ⟨Nat.zero_le _, Nat.zero_le _⟩ rfl rfl (Nat.le_of_ble_eq_true rfl) kl_7 rfl io_196 ?_
      refine c_X9_wrong hG1 (by first | exact hG1.2 _ _ | exact ⟨by omega, by omega⟩) (fun hW gW fW eW => ?_)
      have hG2 := gW
      refine s_iconst dX9_freshName_54 ?_
      rw [if_pos ok1] at eW
      have SW := wr_of S1 gW (fun x y c => fW x y (by omega)) (fW _ _ (by omega)) (eW.trans e1) nb0.1 (by omega)
      exact s_ireturn dX9_freshName_55 rfl (k1 (fun q => by first | exact n0.mp (by omega) q.1 | exact absurd q.2 (by omega)) hW SW)
    · refine s_iload_n dX9_freshName_41 rfl ?_
      refine s_iconst dX9_freshName_42 ?_
      refine s_icmp_eq (tgt := 56) dX9_freshName_43 (by decide) (by first | exact hG1.2 _ _ | exact hG.2 _ _ | exact b01_in _ | assumption | exact ⟨by omega, by omega⟩) (by first | exact hG1.2 _ _ | exact hG.2 _ _ | exact b01_in _ | assumption | exact ⟨by omega, by omega⟩) (fun c3 => ?_) (fun c3 => ?_)
      · refine s_aload_n dX9_freshName_56 rfl ?_
        refine s_dup dX9_freshName_57 rfl ?_
        refine s_geti dX9_freshName_58 fl_X9_104 kl_7 (by decide) rfl io_196 (z := 16) rfl ?_
        rw [e1]
        refine s_aload_n dX9_freshName_61 rfl ?_
        refine s_callV (d' := d - 1) (bc' := 0) (bs' := 0) (as := []) dX9_freshName_62 vf_X9_118 (dd_ (by omega) (by decide)) ⟨Nat.zero_le _, Nat.zero_le _⟩ rfl rfl (Nat.le_of_ble_eq_true rfl) kl_7 rfl io_196 ?_
        refine c_X9_wordLong (by omega) S1.1 (fun h2 R2 f2 e2 => ?_)
        have hG3 := R2.1
        rw [ok_wl S1]
        refine s_iadd dX9_freshName_65 ?_
        refine s_putiG 16 dX9_freshName_66 fl_X9_104 kl_7 (by decide) rfl rfl io_196 (z := 16) rfl (by decide +kernel) hG3 (by first | exact hG3.2 _ _ | exact hG.2 _ _ | exact b01_in _ | assumption | exact ⟨by omega, by omega⟩) (fun hG4 => ?_)
        refine s_iload_n dX9_freshName_69 rfl ?_
        have e9 : hs_ h2 196 16 (nb_ T n a + wl__ T n a) 196 16 = wn_ T n a := by rw [hs_eq]; omega
        have at9 : AT_ h2 (hs_ h2 196 16 (nb_ T n a + wl__ T n a)) := fun x y c => hs_ne _ c
        have S9 := ok_go (ok_at S1 R2 f2 e2) (rn_at R2 hG4 at9 (by rw [e9]; omega)) (at_aw at9) ((at9 _ _ (by omega)).trans ((f2 _ _ (by omega)).trans ok1)) e9
        exact s_ireturn dX9_freshName_70 rfl (k (Classical.byContradiction fun q => absurd (n0.mpr q) (by omega)) (by omega) _ S9 e9)
      · refine s_aload_n dX9_freshName_46 rfl ?_
        refine s_aload_n dX9_freshName_47 rfl ?_
        refine s_geti dX9_freshName_48 fl_X9_104 kl_7 (by decide) rfl io_196 (z := 16) rfl ?_
        refine s_callV (d' := d - 1) (bc' := 0) (bs' := 0) (as := [_]) dX9_freshName_51 vf_X9_137 (dd_ (by omega) (by decide)) ⟨Nat.zero_le _, Nat.zero_le _⟩ rfl rfl (Nat.le_of_ble_eq_true rfl) kl_7 rfl io_196 ?_
        refine c_X9_wrong hG1 (by first | exact hG1.2 _ _ | exact ⟨by omega, by omega⟩) (fun hW gW fW eW => ?_)
        have hG5 := gW
        refine s_iconst dX9_freshName_54 ?_
        rw [if_pos ok1] at eW
        have SW := wr_of S1 gW (fun x y c => fW x y (by omega)) (fW _ _ (by omega)) (eW.trans e1) nb0.1 (by omega)
        exact s_ireturn dX9_freshName_55 rfl (k1 (fun q => by first | exact n0.mp (by omega) q.1 | exact absurd q.2 (by omega)) hW SW)
set_option maxRecDepth 100000 in
set_option maxHeartbeats 4000000 in
theorem kw1_X9_freshName  (hd : 3 ≤ d) (S : WR9 n T h0 f h) (P : LN_ y h0) (k : ∀ h1 : PH, WR9 n T h0 f h1 → Q.1 (some (0, 0)) nN h1) : Cl_ yX9_freshName MX9_freshName d bc bs [(2, 196), (0, 1)] nN h Q := by
  refine s_enter pn_X9 rfl (Nat.le_of_ble_eq_true rfl) (L := [(2, _), (0, _), (9, 0), (9, 0)]) rfl ?_
  have hG := S.1.1
  have fb := S.2.2.2
  have ok : ¬ h 196 17 = -1 := by have := S.2.2.1; omega
  have PH_ := ln_aw P S.2.1
  have yc := ln_c P
  refine s_aload_n dX9_freshName_0 rfl ?_
  refine s_callV (d' := d - 1) (bc' := 0) (bs' := 0) (as := []) dX9_freshName_1 vf_X9_201 (dd_ (by omega) (by decide)) ⟨Nat.zero_le _, Nat.zero_le _⟩ rfl rfl (Nat.le_of_ble_eq_true rfl) kl_7 rfl io_196 ?_
  refine kw_X9_nameHere (by omega) S (fun h1 S1 => ?_)
  have hG1 := S1.1.1
  have hG := hG1
  have ok1 : ¬ h1 196 17 = -1 := by have e := S1.2.2.1; have b := S1.2.2.2; omega
  have P1 := ln_aw P S1.2.1
  refine s_istore_n dX9_freshName_4 (by decide) rfl (L' := [_, _, _, _]) rfl ?_
  refine s_iload_n dX9_freshName_5 rfl ?_
  refine s_if_eq (tgt := 24) dX9_freshName_6 (by decide) (by first | exact hG1.2 _ _ | exact hG.2 _ _ | exact b01_in _ | assumption | exact ⟨by omega, by omega⟩) (fun c1 => ?_) (fun c1 => ?_)
  · exact absurd c1 (by decide)
  · refine s_aload_n dX9_freshName_9 rfl ?_
    refine s_getr dX9_freshName_10 fl_X9_49 kl_7 (by decide) rfl io_196 (z := 24) rfl (rf_7_24 hG1.1 io_196) (rk_7_24 io_196).1 ?_
    refine s_aload_n dX9_freshName_13 rfl ?_
    refine s_geti dX9_freshName_14 fl_X9_204 kl_7 (by decide) rfl io_196 (z := 20) rfl ?_
    refine s_iload_n dX9_freshName_17 rfl ?_
    refine s_callS (d' := d - 1) (bc' := 0) (bs' := 0) (as := [_, _, _]) dX9_freshName_18 sf_X9_207 (dd_ (by omega) (by decide)) ⟨Nat.zero_le _, Nat.zero_le _⟩ rfl rfl (Nat.le_of_ble_eq_true rfl) ?_
    rw [P1.1.2.1]
    refine c_X9_find (N := 12) (rk_7_24 io_196) hG1 (by decide) (by omega) (by omega) ⟨by decide, by decide⟩ ?_
    refine s_goto (tgt := 36) dX9_freshName_21 (by decide) ?_
    refine s_istore_n dX9_freshName_36 (by decide) rfl (L' := [_, _, _, _]) rfl ?_
    refine s_iload_n dX9_freshName_37 rfl ?_
    refine s_if_eq (tgt := 46) dX9_freshName_38 (by decide) (by first | exact hG1.2 _ _ | exact hG.2 _ _ | exact b01_in _ | assumption | exact ⟨by omega, by omega⟩) (fun c2 => ?_) (fun c2 => ?_)
    · refine s_aload_n dX9_freshName_46 rfl ?_
      refine s_aload_n dX9_freshName_47 rfl ?_
      refine s_geti dX9_freshName_48 fl_X9_104 kl_7 (by decide) rfl io_196 (z := 16) rfl ?_
      refine s_callV (d' := d - 1) (bc' := 0) (bs' := 0) (as := [_]) dX9_freshName_51 vf_X9_137 (dd_ (by omega) (by decide)) ⟨Nat.zero_le _, Nat.zero_le _⟩ rfl rfl (Nat.le_of_ble_eq_true rfl) kl_7 rfl io_196 ?_
      refine c_X9_wrong hG1 (by first | exact hG1.2 _ _ | exact ⟨by omega, by omega⟩) (fun hW gW fW eW => ?_)
      have hG2 := gW
      refine s_iconst dX9_freshName_54 ?_
      rw [if_neg ok1] at eW
      have SW := wr_wr S1 gW fW eW
      exact s_ireturn dX9_freshName_55 rfl (k hW SW)
    · exact absurd rfl c2
set_option maxRecDepth 100000 in
set_option maxHeartbeats 4000000 in
theorem c0_X9_freshName  (hd : 8 ≤ d) (S : OK9 n T h0 a h) (P : LN_ y h0) (k : okU T n a → tT y T n a = -1 → ∀ h1 : PH, OK9 n T h0 (wn_ T n a) h1 → h1 196 16 = wn_ T n a → Q.1 (some (0, nc_ T n a)) nN h1) (k1 : ¬ (okU T n a ∧ tT y T n a = -1) → ∀ h1 : PH, WR9 n T h0 (nb_ T n a) h1 → Q.1 (some (0, 0)) nN h1) : Cl_ yX9_freshName MX9_freshName d bc bs [(2, 196), (0, 0)] nN h Q := by
  refine s_enter pn_X9 rfl (Nat.le_of_ble_eq_true rfl) (L := [(2, _), (0, _), (9, 0), (9, 0)]) rfl ?_
  have hG := S.1.1
  have ab := ok_0 S
  have nb0 := nb_0 S
  have ok := S.2.2.1
  have PH_ := ln_aw P S.2.1
  have yc := ln_c P
  have wle : wl__ T n a = wn_ T n a - nb_ T n a := rfl
  have tpb := tT_bd y T n a
  have n0 := nc_0 (T := T) (n := n) (a := a)
  refine s_aload_n dX9_freshName_0 rfl ?_
  refine s_callV (d' := d - 1) (bc' := 0) (bs' := 0) (as := []) dX9_freshName_1 vf_X9_201 (dd_ (by omega) (by decide)) ⟨Nat.zero_le _, Nat.zero_le _⟩ rfl rfl (Nat.le_of_ble_eq_true rfl) kl_7 rfl io_196 ?_
  refine c_X9_nameHere (by omega) S (fun h1 S1 e1 => ?_)
  have hG1 := S1.1.1
  have hG := hG1
  have ok1 := S1.2.2.1
  have P1 := ln_aw P S1.2.1
  have nci := nc_in (T := T) (n := n) (a := a)
  refine s_istore_n dX9_freshName_4 (by decide) rfl (L' := [_, _, _, _]) rfl ?_
  refine s_iload_n dX9_freshName_5 rfl ?_
  refine s_if_eq (tgt := 24) dX9_freshName_6 (by decide) (by first | exact hG1.2 _ _ | exact hG.2 _ _ | exact b01_in _ | assumption | exact ⟨by omega, by omega⟩) (fun c1 => ?_) (fun c1 => ?_)
  · refine s_aload_n dX9_freshName_24 rfl ?_
    refine s_getr dX9_freshName_25 fl_X9_46 kl_7 (by decide) rfl io_196 (z := 23) rfl (rf_7_23 hG1.1 io_196) (rk_7_23 io_196).1 ?_
    refine s_aload_n dX9_freshName_28 rfl ?_
    refine s_geti dX9_freshName_29 fl_X9_211 kl_7 (by decide) rfl io_196 (z := 19) rfl ?_
    refine s_iload_n dX9_freshName_32 rfl ?_
    refine s_callS (d' := d - 1) (bc' := 0) (bs' := 0) (as := [_, _, _]) dX9_freshName_33 sf_X9_207 (dd_ (by omega) (by decide)) ⟨Nat.zero_le _, Nat.zero_le _⟩ rfl rfl (Nat.le_of_ble_eq_true rfl) ?_
    rw [P1.1.1]
    refine c_X9_find (N := 8) (rk_7_23 io_196) hG1 (by decide) (by omega) (by omega) nci ?_
    rw [fT_ P1]
    refine s_istore_n dX9_freshName_36 (by decide) rfl (L' := [_, _, _, _]) rfl ?_
    refine s_iload_n dX9_freshName_37 rfl ?_
    refine s_if_eq (tgt := 46) dX9_freshName_38 (by decide) (by first | exact hG1.2 _ _ | exact hG.2 _ _ | exact b01_in _ | assumption | exact ⟨by omega, by omega⟩) (fun c2 => ?_) (fun c2 => ?_)
    · refine s_aload_n dX9_freshName_46 rfl ?_
      refine s_aload_n dX9_freshName_47 rfl ?_
      refine s_geti dX9_freshName_48 fl_X9_104 kl_7 (by decide) rfl io_196 (z := 16) rfl ?_
      refine s_callV (d' := d - 1) (bc' := 0) (bs' := 0) (as := [_]) dX9_freshName_51 vf_X9_137 (dd_ (by omega) (by decide)) ⟨Nat.zero_le _, Nat.zero_le _⟩ rfl rfl (Nat.le_of_ble_eq_true rfl) kl_7 rfl io_196 ?_
      refine c_X9_wrong hG1 (by first | exact hG1.2 _ _ | exact ⟨by omega, by omega⟩) (fun hW gW fW eW => ?_)
      have hG2 := gW
      refine s_iconst dX9_freshName_54 ?_
      rw [if_pos ok1] at eW
      have SW := wr_of S1 gW (fun x y c => fW x y (by omega)) (fW _ _ (by omega)) (eW.trans e1) nb0.1 (by omega)
      exact s_ireturn dX9_freshName_55 rfl (k1 (fun q => by first | exact n0.mp (by omega) q.1 | exact absurd q.2 (by omega)) hW SW)
    · refine s_iload_n dX9_freshName_41 rfl ?_
      refine s_iconst dX9_freshName_42 ?_
      refine s_icmp_eq (tgt := 56) dX9_freshName_43 (by decide) (by first | exact hG1.2 _ _ | exact hG.2 _ _ | exact b01_in _ | assumption | exact ⟨by omega, by omega⟩) (by first | exact hG1.2 _ _ | exact hG.2 _ _ | exact b01_in _ | assumption | exact ⟨by omega, by omega⟩) (fun c3 => ?_) (fun c3 => ?_)
      · refine s_aload_n dX9_freshName_56 rfl ?_
        refine s_dup dX9_freshName_57 rfl ?_
        refine s_geti dX9_freshName_58 fl_X9_104 kl_7 (by decide) rfl io_196 (z := 16) rfl ?_
        rw [e1]
        refine s_aload_n dX9_freshName_61 rfl ?_
        refine s_callV (d' := d - 1) (bc' := 0) (bs' := 0) (as := []) dX9_freshName_62 vf_X9_118 (dd_ (by omega) (by decide)) ⟨Nat.zero_le _, Nat.zero_le _⟩ rfl rfl (Nat.le_of_ble_eq_true rfl) kl_7 rfl io_196 ?_
        refine c_X9_wordLong (by omega) S1.1 (fun h2 R2 f2 e2 => ?_)
        have hG3 := R2.1
        rw [ok_wl S1]
        refine s_iadd dX9_freshName_65 ?_
        refine s_putiG 16 dX9_freshName_66 fl_X9_104 kl_7 (by decide) rfl rfl io_196 (z := 16) rfl (by decide +kernel) hG3 (by first | exact hG3.2 _ _ | exact hG.2 _ _ | exact b01_in _ | assumption | exact ⟨by omega, by omega⟩) (fun hG4 => ?_)
        refine s_iload_n dX9_freshName_69 rfl ?_
        have e9 : hs_ h2 196 16 (nb_ T n a + wl__ T n a) 196 16 = wn_ T n a := by rw [hs_eq]; omega
        have at9 : AT_ h2 (hs_ h2 196 16 (nb_ T n a + wl__ T n a)) := fun x y c => hs_ne _ c
        have S9 := ok_go (ok_at S1 R2 f2 e2) (rn_at R2 hG4 at9 (by rw [e9]; omega)) (at_aw at9) ((at9 _ _ (by omega)).trans ((f2 _ _ (by omega)).trans ok1)) e9
        exact s_ireturn dX9_freshName_70 rfl (k (Classical.byContradiction fun q => absurd (n0.mpr q) (by omega)) (by omega) _ S9 e9)
      · refine s_aload_n dX9_freshName_46 rfl ?_
        refine s_aload_n dX9_freshName_47 rfl ?_
        refine s_geti dX9_freshName_48 fl_X9_104 kl_7 (by decide) rfl io_196 (z := 16) rfl ?_
        refine s_callV (d' := d - 1) (bc' := 0) (bs' := 0) (as := [_]) dX9_freshName_51 vf_X9_137 (dd_ (by omega) (by decide)) ⟨Nat.zero_le _, Nat.zero_le _⟩ rfl rfl (Nat.le_of_ble_eq_true rfl) kl_7 rfl io_196 ?_
        refine c_X9_wrong hG1 (by first | exact hG1.2 _ _ | exact ⟨by omega, by omega⟩) (fun hW gW fW eW => ?_)
        have hG5 := gW
        refine s_iconst dX9_freshName_54 ?_
        rw [if_pos ok1] at eW
        have SW := wr_of S1 gW (fun x y c => fW x y (by omega)) (fW _ _ (by omega)) (eW.trans e1) nb0.1 (by omega)
        exact s_ireturn dX9_freshName_55 rfl (k1 (fun q => by first | exact n0.mp (by omega) q.1 | exact absurd q.2 (by omega)) hW SW)
  · exact absurd c1 (by decide)
set_option maxRecDepth 100000 in
set_option maxHeartbeats 4000000 in
theorem kw0_X9_freshName  (hd : 3 ≤ d) (S : WR9 n T h0 f h) (P : LN_ y h0) (k : ∀ h1 : PH, WR9 n T h0 f h1 → Q.1 (some (0, 0)) nN h1) : Cl_ yX9_freshName MX9_freshName d bc bs [(2, 196), (0, 0)] nN h Q := by
  refine s_enter pn_X9 rfl (Nat.le_of_ble_eq_true rfl) (L := [(2, _), (0, _), (9, 0), (9, 0)]) rfl ?_
  have hG := S.1.1
  have fb := S.2.2.2
  have ok : ¬ h 196 17 = -1 := by have := S.2.2.1; omega
  have PH_ := ln_aw P S.2.1
  have yc := ln_c P
  refine s_aload_n dX9_freshName_0 rfl ?_
  refine s_callV (d' := d - 1) (bc' := 0) (bs' := 0) (as := []) dX9_freshName_1 vf_X9_201 (dd_ (by omega) (by decide)) ⟨Nat.zero_le _, Nat.zero_le _⟩ rfl rfl (Nat.le_of_ble_eq_true rfl) kl_7 rfl io_196 ?_
  refine kw_X9_nameHere (by omega) S (fun h1 S1 => ?_)
  have hG1 := S1.1.1
  have hG := hG1
  have ok1 : ¬ h1 196 17 = -1 := by have e := S1.2.2.1; have b := S1.2.2.2; omega
  have P1 := ln_aw P S1.2.1
  refine s_istore_n dX9_freshName_4 (by decide) rfl (L' := [_, _, _, _]) rfl ?_
  refine s_iload_n dX9_freshName_5 rfl ?_
  refine s_if_eq (tgt := 24) dX9_freshName_6 (by decide) (by first | exact hG1.2 _ _ | exact hG.2 _ _ | exact b01_in _ | assumption | exact ⟨by omega, by omega⟩) (fun c1 => ?_) (fun c1 => ?_)
  · refine s_aload_n dX9_freshName_24 rfl ?_
    refine s_getr dX9_freshName_25 fl_X9_46 kl_7 (by decide) rfl io_196 (z := 23) rfl (rf_7_23 hG1.1 io_196) (rk_7_23 io_196).1 ?_
    refine s_aload_n dX9_freshName_28 rfl ?_
    refine s_geti dX9_freshName_29 fl_X9_211 kl_7 (by decide) rfl io_196 (z := 19) rfl ?_
    refine s_iload_n dX9_freshName_32 rfl ?_
    refine s_callS (d' := d - 1) (bc' := 0) (bs' := 0) (as := [_, _, _]) dX9_freshName_33 sf_X9_207 (dd_ (by omega) (by decide)) ⟨Nat.zero_le _, Nat.zero_le _⟩ rfl rfl (Nat.le_of_ble_eq_true rfl) ?_
    rw [P1.1.1]
    refine c_X9_find (N := 8) (rk_7_23 io_196) hG1 (by decide) (by omega) (by omega) ⟨by decide, by decide⟩ ?_
    refine s_istore_n dX9_freshName_36 (by decide) rfl (L' := [_, _, _, _]) rfl ?_
    refine s_iload_n dX9_freshName_37 rfl ?_
    refine s_if_eq (tgt := 46) dX9_freshName_38 (by decide) (by first | exact hG1.2 _ _ | exact hG.2 _ _ | exact b01_in _ | assumption | exact ⟨by omega, by omega⟩) (fun c2 => ?_) (fun c2 => ?_)
    · refine s_aload_n dX9_freshName_46 rfl ?_
      refine s_aload_n dX9_freshName_47 rfl ?_
      refine s_geti dX9_freshName_48 fl_X9_104 kl_7 (by decide) rfl io_196 (z := 16) rfl ?_
      refine s_callV (d' := d - 1) (bc' := 0) (bs' := 0) (as := [_]) dX9_freshName_51 vf_X9_137 (dd_ (by omega) (by decide)) ⟨Nat.zero_le _, Nat.zero_le _⟩ rfl rfl (Nat.le_of_ble_eq_true rfl) kl_7 rfl io_196 ?_
      refine c_X9_wrong hG1 (by first | exact hG1.2 _ _ | exact ⟨by omega, by omega⟩) (fun hW gW fW eW => ?_)
      have hG2 := gW
      refine s_iconst dX9_freshName_54 ?_
      rw [if_neg ok1] at eW
      have SW := wr_wr S1 gW fW eW
      exact s_ireturn dX9_freshName_55 rfl (k hW SW)
    · exact absurd rfl c2
  · exact absurd c1 (by decide)
set_option maxRecDepth 100000 in
set_option maxHeartbeats 4000000 in
theorem lp_X9_isOfKind {c t : Int} (hG : G h) (P : LN_ y h) (hc : inI c) (ht : inI t) (k : Q.1 (some (0, b01 (gk_ y c t))) nN h) : ∀ (m : Nat) (g : Int), (0 ≤ g) → (g + m = y 0 2) → (∀ j : Int, 0 ≤ j → j < g → ¬ (y 5 j = c ∧ y 7 j = t)) → S_ MX9_isOfKind d bc bs Q 2 [(2, 196), (0, c), (0, t), (0, g)] [] nN h := by
  intro m
  induction m with
  | zero =>
    intro g g0 gm H
    have yc := ln_c P
    have en := P.1.2.2
    have e5 : g < y 0 2 → h (196 + 15) (5 * g) = y 5 g := fun q => by have w := P.2.2.2.2.2.1 g 0 g0 q (by omega) (by omega); rw [show 5 * g + 0 = 5 * g by omega] at w; exact w
    have e7 : g < y 0 2 → h (196 + 15) (5 * g + 2) = y 7 g := fun q => P.2.2.2.2.2.1 g 2 g0 q (by omega) (by omega)
    refine s_iload_n dX9_isOfKind_2 rfl ?_
    refine s_aload_n dX9_isOfKind_3 rfl ?_
    refine s_geti dX9_isOfKind_4 fl_X9_214 kl_7 (by decide) rfl io_196 (z := 21) rfl ?_
    refine s_icmp_ge (tgt := 44) dX9_isOfKind_7 (by decide) (by first | exact hG.2 _ _ | exact b01_in _ | assumption | exact ⟨by omega, by omega⟩) (by first | exact hG.2 _ _ | exact b01_in _ | assumption | exact ⟨by omega, by omega⟩) (fun c1 => ?_) (fun c1 => ?_)
    · refine s_iconst dX9_isOfKind_44 ?_
      exact s_zreturn dX9_isOfKind_45 rfl (Or.inl rfl) (q_val (b01_f (c := gk_ y c t) (fun q => by obtain ⟨j, j0, j1, j2, j3⟩ := q; exact H j j0 (by omega) ⟨j2, j3⟩)) k)
    · exact absurd c1 (by omega)
  | succ m ih =>
    intro g g0 gm H
    have yc := ln_c P
    have en := P.1.2.2
    have e5 : g < y 0 2 → h (196 + 15) (5 * g) = y 5 g := fun q => by have w := P.2.2.2.2.2.1 g 0 g0 q (by omega) (by omega); rw [show 5 * g + 0 = 5 * g by omega] at w; exact w
    have e7 : g < y 0 2 → h (196 + 15) (5 * g + 2) = y 7 g := fun q => P.2.2.2.2.2.1 g 2 g0 q (by omega) (by omega)
    refine s_iload_n dX9_isOfKind_2 rfl ?_
    refine s_aload_n dX9_isOfKind_3 rfl ?_
    refine s_geti dX9_isOfKind_4 fl_X9_214 kl_7 (by decide) rfl io_196 (z := 21) rfl ?_
    refine s_icmp_ge (tgt := 44) dX9_isOfKind_7 (by decide) (by first | exact hG.2 _ _ | exact b01_in _ | assumption | exact ⟨by omega, by omega⟩) (by first | exact hG.2 _ _ | exact b01_in _ | assumption | exact ⟨by omega, by omega⟩) (fun c1 => ?_) (fun c1 => ?_)
    · exact absurd c1 (by omega)
    · refine s_aload_n dX9_isOfKind_10 rfl ?_
      refine s_getr dX9_isOfKind_11 fl_X9_58 kl_7 (by decide) rfl io_196 (z := 27) rfl (rf_7_27 hG.1 io_196) (rk_7_27 io_196).1 ?_
      refine s_iconst dX9_isOfKind_14 ?_
      refine s_iload_n dX9_isOfKind_15 rfl ?_
      refine s_imul dX9_isOfKind_16 ?_
      refine s_iaload dX9_isOfKind_17 (rk_7_27 io_196) (by omega) (by omega) ?_
      have e5 := e5 (by omega)
      refine s_iload_n dX9_isOfKind_18 rfl ?_
      refine s_icmp_ne (tgt := 38) dX9_isOfKind_19 (by decide) (by first | exact hG.2 _ _ | exact b01_in _ | assumption | exact ⟨by omega, by omega⟩) (by first | exact hG.2 _ _ | exact b01_in _ | assumption | exact ⟨by omega, by omega⟩) (fun c2 => ?_) (fun c2 => ?_)
      · refine s_iinc dX9_isOfKind_38 rfl (by decide) rfl (L' := [_, _, _, _]) rfl ?_
        refine s_goto (tgt := 2) dX9_isOfKind_41 (by decide) ?_
        exact ih (g + 1) (by omega) (by omega) (fun j j0 j1 => (by rcases (by omega : j < g ∨ j = g) with r | r; exact H j j0 r; rw [r]; omega))
      · refine s_aload_n dX9_isOfKind_22 rfl ?_
        refine s_getr dX9_isOfKind_23 fl_X9_58 kl_7 (by decide) rfl io_196 (z := 27) rfl (rf_7_27 hG.1 io_196) (rk_7_27 io_196).1 ?_
        refine s_iconst dX9_isOfKind_26 ?_
        refine s_iload_n dX9_isOfKind_27 rfl ?_
        refine s_imul dX9_isOfKind_28 ?_
        refine s_iconst dX9_isOfKind_29 ?_
        refine s_iadd dX9_isOfKind_30 ?_
        refine s_iaload dX9_isOfKind_31 (rk_7_27 io_196) (by omega) (by omega) ?_
        have e7 := e7 (by omega)
        refine s_iload_n dX9_isOfKind_32 rfl ?_
        refine s_icmp_ne (tgt := 38) dX9_isOfKind_33 (by decide) (by first | exact hG.2 _ _ | exact b01_in _ | assumption | exact ⟨by omega, by omega⟩) (by first | exact hG.2 _ _ | exact b01_in _ | assumption | exact ⟨by omega, by omega⟩) (fun c3 => ?_) (fun c3 => ?_)
        · refine s_iinc dX9_isOfKind_38 rfl (by decide) rfl (L' := [_, _, _, _]) rfl ?_
          refine s_goto (tgt := 2) dX9_isOfKind_41 (by decide) ?_
          exact ih (g + 1) (by omega) (by omega) (fun j j0 j1 => (by rcases (by omega : j < g ∨ j = g) with r | r; exact H j j0 r; rw [r]; omega))
        · refine s_iconst dX9_isOfKind_36 ?_
          exact s_zreturn dX9_isOfKind_37 rfl (Or.inr rfl) (q_val (b01_t (c := gk_ y c t) ⟨g, g0, by omega, by omega, by omega⟩) k)
set_option maxRecDepth 100000 in
set_option maxHeartbeats 4000000 in
theorem c_X9_isOfKind {c t : Int} (hG : G h) (P : LN_ y h) (hc : inI c) (ht : inI t) (k : Q.1 (some (0, b01 (gk_ y c t))) nN h) : Cl_ yX9_isOfKind MX9_isOfKind d bc bs [(2, 196), (0, c), (0, t)] nN h Q := by
  refine s_enter pn_X9 rfl (Nat.le_of_ble_eq_true rfl) (L := [(2, _), (0, _), (0, _), (9, 0)]) rfl ?_
  refine s_iconst dX9_isOfKind_0 ?_
  refine s_istore_n dX9_isOfKind_1 (by decide) rfl (L' := [_, _, _, _]) rfl ?_
  exact lp_X9_isOfKind hG P hc ht k (y 0 2).toNat 0 (Int.le_refl _) (by have := ln_c P; omega) (fun j j0 j1 => by omega)
/-- the thing that stands at a may stand there -/
def mh_ (y : PH) (T : Int → Int) (n a v : Int) : Prop := ¬ tT y T n a = -1 ∧ (v = 1 → ¬ gk_ y 0 (tT y T n a) ∧ ¬ gk_ y 2 (tT y T n a)) ∧ (v = 2 → ¬ gk_ y 0 (tT y T n a)) ∧ (v = 3 → y 1 (8 + tT y T n a) = 0)
set_option maxRecDepth 100000 in
set_option maxHeartbeats 4000000 in
theorem c1_X9_thingHere  (hd : 8 ≤ d) (S : OK9 n T h0 a h) (P : LN_ y h0) (k : mh_ y T n a 1 → ∀ h1 : PH, OK9 n T h0 (wn_ T n a) h1 → h1 196 16 = wn_ T n a → Q.1 (some (0, tT y T n a)) nN h1) (k1 : ¬ mh_ y T n a 1 → ∀ h1 : PH, WR9 n T h0 (nb_ T n a) h1 → Q.1 (some (0, 0)) nN h1) : Cl_ yX9_thingHere MX9_thingHere d bc bs [(2, 196), (0, 1)] nN h Q := by
  refine s_enter pn_X9 rfl (Nat.le_of_ble_eq_true rfl) (L := [(2, _), (0, _), (9, 0), (9, 0)]) rfl ?_
  have hG := S.1.1
  have ab := ok_0 S
  have nb0 := nb_0 S
  have ok := S.2.2.1
  have PH_ := ln_aw P S.2.1
  have yc := ln_c P
  have wle : wl__ T n a = wn_ T n a - nb_ T n a := rfl
  have tpb := tT_bd y T n a
  refine s_aload_n dX9_thingHere_0 rfl ?_
  refine s_getr dX9_thingHere_1 fl_X9_46 kl_7 (by decide) rfl io_196 (z := 23) rfl (rf_7_23 hG.1 io_196) (rk_7_23 io_196).1 ?_
  refine s_aload_n dX9_thingHere_4 rfl ?_
  refine s_geti dX9_thingHere_5 fl_X9_211 kl_7 (by decide) rfl io_196 (z := 19) rfl ?_
  refine s_aload_n dX9_thingHere_8 rfl ?_
  refine s_callV (d' := d - 1) (bc' := 0) (bs' := 0) (as := []) dX9_thingHere_9 vf_X9_201 (dd_ (by omega) (by decide)) ⟨Nat.zero_le _, Nat.zero_le _⟩ rfl rfl (Nat.le_of_ble_eq_true rfl) kl_7 rfl io_196 ?_
  refine c_X9_nameHere (by omega) S (fun h1 S1 e1 => ?_)
  have hG1 := S1.1.1
  have hG := hG1
  have ok1 := S1.2.2.1
  have P1 := ln_aw P S1.2.1
  have nci := nc_in (T := T) (n := n) (a := a)
  rw [PH_.1.1]
  refine s_callS (d' := d - 1) (bc' := 0) (bs' := 0) (as := [_, _, _]) dX9_thingHere_12 sf_X9_207 (dd_ (by omega) (by decide)) ⟨Nat.zero_le _, Nat.zero_le _⟩ rfl rfl (Nat.le_of_ble_eq_true rfl) ?_
  refine c_X9_find (N := 8) (rk_7_23 io_196) hG1 (by decide) (by omega) (by omega) nci ?_
  rw [fT_ P1]
  refine s_istore_n dX9_thingHere_15 (by decide) rfl (L' := [_, _, _, _]) rfl ?_
  refine s_aload_n dX9_thingHere_16 rfl ?_
  refine s_callV (d' := d - 1) (bc' := 0) (bs' := 0) (as := []) dX9_thingHere_17 vf_X9_114 (dd_ (by omega) (by decide)) ⟨Nat.zero_le _, Nat.zero_le _⟩ rfl rfl (Nat.le_of_ble_eq_true rfl) kl_7 rfl io_196 ?_
  refine c_X9_isWrong hG1 ?_
  refine s_if_ne (tgt := 32) dX9_thingHere_20 (by decide) (by first | exact hG1.2 _ _ | exact hG.2 _ _ | exact b01_in _ | assumption | exact ⟨by omega, by omega⟩) (fun c1 => ?_) (fun c1 => ?_)
  · exact absurd ok1 (b01_n.mp c1)
  · have c1 := b01_0.mp c1
    refine s_iload_n dX9_thingHere_23 rfl ?_
    refine s_iconst dX9_thingHere_24 ?_
    refine s_icmp_eq (tgt := 32) dX9_thingHere_25 (by decide) (by first | exact hG1.2 _ _ | exact hG.2 _ _ | exact b01_in _ | assumption | exact ⟨by omega, by omega⟩) (by first | exact hG1.2 _ _ | exact hG.2 _ _ | exact b01_in _ | assumption | exact ⟨by omega, by omega⟩) (fun c2 => ?_) (fun c2 => ?_)
    · refine s_iconst dX9_thingHere_32 ?_
      refine s_istore_n dX9_thingHere_33 (by decide) rfl (L' := [_, _, _, _]) rfl ?_
      refine s_iload_n dX9_thingHere_34 rfl ?_
      refine s_if_eq (tgt := 65) dX9_thingHere_35 (by decide) (by first | exact hG1.2 _ _ | exact hG.2 _ _ | exact b01_in _ | assumption | exact ⟨by omega, by omega⟩) (fun c3 => ?_) (fun c3 => ?_)
      · refine s_iconst dX9_thingHere_65 ?_
        refine s_istore_n dX9_thingHere_66 (by decide) rfl (L' := [_, _, _, _]) rfl ?_
        refine s_iload_n dX9_thingHere_67 rfl ?_
        refine s_if_eq (tgt := 89) dX9_thingHere_68 (by decide) (by first | exact hG1.2 _ _ | exact hG.2 _ _ | exact b01_in _ | assumption | exact ⟨by omega, by omega⟩) (fun c4 => ?_) (fun c4 => ?_)
        · refine s_iconst dX9_thingHere_89 ?_
          refine s_istore_n dX9_thingHere_90 (by decide) rfl (L' := [_, _, _, _]) rfl ?_
          refine s_iload_n dX9_thingHere_91 rfl ?_
          refine s_if_eq (tgt := 119) dX9_thingHere_92 (by decide) (by first | exact hG1.2 _ _ | exact hG.2 _ _ | exact b01_in _ | assumption | exact ⟨by omega, by omega⟩) (fun c5 => ?_) (fun c5 => ?_)
          · refine s_iconst dX9_thingHere_119 ?_
            refine s_istore_n dX9_thingHere_120 (by decide) rfl (L' := [_, _, _, _]) rfl ?_
            refine s_iload_n dX9_thingHere_121 rfl ?_
            refine s_if_ne (tgt := 135) dX9_thingHere_122 (by decide) (by first | exact hG1.2 _ _ | exact hG.2 _ _ | exact b01_in _ | assumption | exact ⟨by omega, by omega⟩) (fun c6 => ?_) (fun c6 => ?_)
            · exact absurd rfl c6
            · refine s_aload_n dX9_thingHere_125 rfl ?_
              refine s_aload_n dX9_thingHere_126 rfl ?_
              refine s_geti dX9_thingHere_127 fl_X9_104 kl_7 (by decide) rfl io_196 (z := 16) rfl ?_
              refine s_callV (d' := d - 1) (bc' := 0) (bs' := 0) (as := [_]) dX9_thingHere_130 vf_X9_137 (dd_ (by omega) (by decide)) ⟨Nat.zero_le _, Nat.zero_le _⟩ rfl rfl (Nat.le_of_ble_eq_true rfl) kl_7 rfl io_196 ?_
              refine c_X9_wrong hG1 (by first | exact hG1.2 _ _ | exact ⟨by omega, by omega⟩) (fun hW gW fW eW => ?_)
              have hG2 := gW
              refine s_iconst dX9_thingHere_133 ?_
              rw [if_pos ok1] at eW
              have SW := wr_of S1 gW (fun x y c => fW x y (by omega)) (fW _ _ (by omega)) (eW.trans e1) nb0.1 (by omega)
              exact s_ireturn dX9_thingHere_134 rfl (k1 (fun q => by unfold mh_ at q; first | exact absurd q.1 (by omega) | exact (q.2.1 rfl).1 (by assumption) | exact (q.2.1 rfl).2 (by assumption) | exact q.2.2.1 rfl (by assumption) | exact absurd (q.2.2.2 rfl) (by omega)) hW SW)
          · exact absurd rfl c5
        · exact absurd rfl c4
      · exact absurd rfl c3
    · refine s_iconst dX9_thingHere_28 ?_
      refine s_goto (tgt := 33) dX9_thingHere_29 (by decide) ?_
      refine s_istore_n dX9_thingHere_33 (by decide) rfl (L' := [_, _, _, _]) rfl ?_
      refine s_iload_n dX9_thingHere_34 rfl ?_
      refine s_if_eq (tgt := 65) dX9_thingHere_35 (by decide) (by first | exact hG1.2 _ _ | exact hG.2 _ _ | exact b01_in _ | assumption | exact ⟨by omega, by omega⟩) (fun c7 => ?_) (fun c7 => ?_)
      · exact absurd (show (1 : Int) = 0 from c7) (by decide)
      · refine s_iload_n dX9_thingHere_38 rfl ?_
        refine s_iconst dX9_thingHere_39 ?_
        refine s_icmp_ne (tgt := 61) dX9_thingHere_40 (by decide) (by first | exact hG1.2 _ _ | exact hG.2 _ _ | exact b01_in _ | assumption | exact ⟨by omega, by omega⟩) (by first | exact hG1.2 _ _ | exact hG.2 _ _ | exact b01_in _ | assumption | exact ⟨by omega, by omega⟩) (fun c8 => ?_) (fun c8 => ?_)
        · exact absurd rfl c8
        · refine s_aload_n dX9_thingHere_43 rfl ?_
          refine s_iconst dX9_thingHere_44 ?_
          refine s_iload_n dX9_thingHere_45 rfl ?_
          refine s_callV (d' := d - 1) (bc' := 0) (bs' := 0) (as := [_, _]) dX9_thingHere_46 vf_X9_217 (dd_ (by omega) (by decide)) ⟨Nat.zero_le _, Nat.zero_le _⟩ rfl rfl (Nat.le_of_ble_eq_true rfl) kl_7 rfl io_196 ?_
          refine c_X9_isOfKind hG1 P1 ⟨by decide, by decide⟩ ⟨by omega, by omega⟩ ?_
          refine s_if_ne (tgt := 65) dX9_thingHere_49 (by decide) (by first | exact hG1.2 _ _ | exact hG.2 _ _ | exact b01_in _ | assumption | exact ⟨by omega, by omega⟩) (fun c9 => ?_) (fun c9 => ?_)
          · have c9 := b01_n.mp c9
            refine s_iconst dX9_thingHere_65 ?_
            refine s_istore_n dX9_thingHere_66 (by decide) rfl (L' := [_, _, _, _]) rfl ?_
            refine s_iload_n dX9_thingHere_67 rfl ?_
            refine s_if_eq (tgt := 89) dX9_thingHere_68 (by decide) (by first | exact hG1.2 _ _ | exact hG.2 _ _ | exact b01_in _ | assumption | exact ⟨by omega, by omega⟩) (fun c10 => ?_) (fun c10 => ?_)
            · refine s_iconst dX9_thingHere_89 ?_
              refine s_istore_n dX9_thingHere_90 (by decide) rfl (L' := [_, _, _, _]) rfl ?_
              refine s_iload_n dX9_thingHere_91 rfl ?_
              refine s_if_eq (tgt := 119) dX9_thingHere_92 (by decide) (by first | exact hG1.2 _ _ | exact hG.2 _ _ | exact b01_in _ | assumption | exact ⟨by omega, by omega⟩) (fun c11 => ?_) (fun c11 => ?_)
              · refine s_iconst dX9_thingHere_119 ?_
                refine s_istore_n dX9_thingHere_120 (by decide) rfl (L' := [_, _, _, _]) rfl ?_
                refine s_iload_n dX9_thingHere_121 rfl ?_
                refine s_if_ne (tgt := 135) dX9_thingHere_122 (by decide) (by first | exact hG1.2 _ _ | exact hG.2 _ _ | exact b01_in _ | assumption | exact ⟨by omega, by omega⟩) (fun c12 => ?_) (fun c12 => ?_)
                · exact absurd rfl c12
                · refine s_aload_n dX9_thingHere_125 rfl ?_
                  refine s_aload_n dX9_thingHere_126 rfl ?_
                  refine s_geti dX9_thingHere_127 fl_X9_104 kl_7 (by decide) rfl io_196 (z := 16) rfl ?_
                  refine s_callV (d' := d - 1) (bc' := 0) (bs' := 0) (as := [_]) dX9_thingHere_130 vf_X9_137 (dd_ (by omega) (by decide)) ⟨Nat.zero_le _, Nat.zero_le _⟩ rfl rfl (Nat.le_of_ble_eq_true rfl) kl_7 rfl io_196 ?_
                  refine c_X9_wrong hG1 (by first | exact hG1.2 _ _ | exact ⟨by omega, by omega⟩) (fun hW gW fW eW => ?_)
                  have hG3 := gW
                  refine s_iconst dX9_thingHere_133 ?_
                  rw [if_pos ok1] at eW
                  have SW := wr_of S1 gW (fun x y c => fW x y (by omega)) (fW _ _ (by omega)) (eW.trans e1) nb0.1 (by omega)
                  exact s_ireturn dX9_thingHere_134 rfl (k1 (fun q => by unfold mh_ at q; first | exact absurd q.1 (by omega) | exact (q.2.1 rfl).1 (by assumption) | exact (q.2.1 rfl).2 (by assumption) | exact q.2.2.1 rfl (by assumption) | exact absurd (q.2.2.2 rfl) (by omega)) hW SW)
              · exact absurd rfl c11
            · exact absurd rfl c10
          · have c9 := b01_0.mp c9
            refine s_aload_n dX9_thingHere_52 rfl ?_
            refine s_iconst dX9_thingHere_53 ?_
            refine s_iload_n dX9_thingHere_54 rfl ?_
            refine s_callV (d' := d - 1) (bc' := 0) (bs' := 0) (as := [_, _]) dX9_thingHere_55 vf_X9_217 (dd_ (by omega) (by decide)) ⟨Nat.zero_le _, Nat.zero_le _⟩ rfl rfl (Nat.le_of_ble_eq_true rfl) kl_7 rfl io_196 ?_
            refine c_X9_isOfKind hG1 P1 ⟨by decide, by decide⟩ ⟨by omega, by omega⟩ ?_
            refine s_if_ne (tgt := 65) dX9_thingHere_58 (by decide) (by first | exact hG1.2 _ _ | exact hG.2 _ _ | exact b01_in _ | assumption | exact ⟨by omega, by omega⟩) (fun c13 => ?_) (fun c13 => ?_)
            · have c13 := b01_n.mp c13
              refine s_iconst dX9_thingHere_65 ?_
              refine s_istore_n dX9_thingHere_66 (by decide) rfl (L' := [_, _, _, _]) rfl ?_
              refine s_iload_n dX9_thingHere_67 rfl ?_
              refine s_if_eq (tgt := 89) dX9_thingHere_68 (by decide) (by first | exact hG1.2 _ _ | exact hG.2 _ _ | exact b01_in _ | assumption | exact ⟨by omega, by omega⟩) (fun c14 => ?_) (fun c14 => ?_)
              · refine s_iconst dX9_thingHere_89 ?_
                refine s_istore_n dX9_thingHere_90 (by decide) rfl (L' := [_, _, _, _]) rfl ?_
                refine s_iload_n dX9_thingHere_91 rfl ?_
                refine s_if_eq (tgt := 119) dX9_thingHere_92 (by decide) (by first | exact hG1.2 _ _ | exact hG.2 _ _ | exact b01_in _ | assumption | exact ⟨by omega, by omega⟩) (fun c15 => ?_) (fun c15 => ?_)
                · refine s_iconst dX9_thingHere_119 ?_
                  refine s_istore_n dX9_thingHere_120 (by decide) rfl (L' := [_, _, _, _]) rfl ?_
                  refine s_iload_n dX9_thingHere_121 rfl ?_
                  refine s_if_ne (tgt := 135) dX9_thingHere_122 (by decide) (by first | exact hG1.2 _ _ | exact hG.2 _ _ | exact b01_in _ | assumption | exact ⟨by omega, by omega⟩) (fun c16 => ?_) (fun c16 => ?_)
                  · exact absurd rfl c16
                  · refine s_aload_n dX9_thingHere_125 rfl ?_
                    refine s_aload_n dX9_thingHere_126 rfl ?_
                    refine s_geti dX9_thingHere_127 fl_X9_104 kl_7 (by decide) rfl io_196 (z := 16) rfl ?_
                    refine s_callV (d' := d - 1) (bc' := 0) (bs' := 0) (as := [_]) dX9_thingHere_130 vf_X9_137 (dd_ (by omega) (by decide)) ⟨Nat.zero_le _, Nat.zero_le _⟩ rfl rfl (Nat.le_of_ble_eq_true rfl) kl_7 rfl io_196 ?_
                    refine c_X9_wrong hG1 (by first | exact hG1.2 _ _ | exact ⟨by omega, by omega⟩) (fun hW gW fW eW => ?_)
                    have hG4 := gW
                    refine s_iconst dX9_thingHere_133 ?_
                    rw [if_pos ok1] at eW
                    have SW := wr_of S1 gW (fun x y c => fW x y (by omega)) (fW _ _ (by omega)) (eW.trans e1) nb0.1 (by omega)
                    exact s_ireturn dX9_thingHere_134 rfl (k1 (fun q => by unfold mh_ at q; first | exact absurd q.1 (by omega) | exact (q.2.1 rfl).1 (by assumption) | exact (q.2.1 rfl).2 (by assumption) | exact q.2.2.1 rfl (by assumption) | exact absurd (q.2.2.2 rfl) (by omega)) hW SW)
                · exact absurd rfl c15
              · exact absurd rfl c14
            · have c13 := b01_0.mp c13
              refine s_iconst dX9_thingHere_61 ?_
              refine s_goto (tgt := 66) dX9_thingHere_62 (by decide) ?_
              refine s_istore_n dX9_thingHere_66 (by decide) rfl (L' := [_, _, _, _]) rfl ?_
              refine s_iload_n dX9_thingHere_67 rfl ?_
              refine s_if_eq (tgt := 89) dX9_thingHere_68 (by decide) (by first | exact hG1.2 _ _ | exact hG.2 _ _ | exact b01_in _ | assumption | exact ⟨by omega, by omega⟩) (fun c17 => ?_) (fun c17 => ?_)
              · exact absurd (show (1 : Int) = 0 from c17) (by decide)
              · refine s_iload_n dX9_thingHere_71 rfl ?_
                refine s_iconst dX9_thingHere_72 ?_
                refine s_icmp_ne (tgt := 85) dX9_thingHere_73 (by decide) (by first | exact hG1.2 _ _ | exact hG.2 _ _ | exact b01_in _ | assumption | exact ⟨by omega, by omega⟩) (by first | exact hG1.2 _ _ | exact hG.2 _ _ | exact b01_in _ | assumption | exact ⟨by omega, by omega⟩) (fun c18 => ?_) (fun c18 => ?_)
                · refine s_iconst dX9_thingHere_85 ?_
                  refine s_goto (tgt := 90) dX9_thingHere_86 (by decide) ?_
                  refine s_istore_n dX9_thingHere_90 (by decide) rfl (L' := [_, _, _, _]) rfl ?_
                  refine s_iload_n dX9_thingHere_91 rfl ?_
                  refine s_if_eq (tgt := 119) dX9_thingHere_92 (by decide) (by first | exact hG1.2 _ _ | exact hG.2 _ _ | exact b01_in _ | assumption | exact ⟨by omega, by omega⟩) (fun c19 => ?_) (fun c19 => ?_)
                  · exact absurd (show (1 : Int) = 0 from c19) (by decide)
                  · refine s_iload_n dX9_thingHere_95 rfl ?_
                    refine s_iconst dX9_thingHere_96 ?_
                    refine s_icmp_ne (tgt := 115) dX9_thingHere_97 (by decide) (by first | exact hG1.2 _ _ | exact hG.2 _ _ | exact b01_in _ | assumption | exact ⟨by omega, by omega⟩) (by first | exact hG1.2 _ _ | exact hG.2 _ _ | exact b01_in _ | assumption | exact ⟨by omega, by omega⟩) (fun c20 => ?_) (fun c20 => ?_)
                    · refine s_iconst dX9_thingHere_115 ?_
                      refine s_goto (tgt := 120) dX9_thingHere_116 (by decide) ?_
                      refine s_istore_n dX9_thingHere_120 (by decide) rfl (L' := [_, _, _, _]) rfl ?_
                      refine s_iload_n dX9_thingHere_121 rfl ?_
                      refine s_if_ne (tgt := 135) dX9_thingHere_122 (by decide) (by first | exact hG1.2 _ _ | exact hG.2 _ _ | exact b01_in _ | assumption | exact ⟨by omega, by omega⟩) (fun c21 => ?_) (fun c21 => ?_)
                      · refine s_aload_n dX9_thingHere_135 rfl ?_
                        refine s_dup dX9_thingHere_136 rfl ?_
                        refine s_geti dX9_thingHere_137 fl_X9_104 kl_7 (by decide) rfl io_196 (z := 16) rfl ?_
                        rw [e1]
                        refine s_aload_n dX9_thingHere_140 rfl ?_
                        refine s_callV (d' := d - 1) (bc' := 0) (bs' := 0) (as := []) dX9_thingHere_141 vf_X9_118 (dd_ (by omega) (by decide)) ⟨Nat.zero_le _, Nat.zero_le _⟩ rfl rfl (Nat.le_of_ble_eq_true rfl) kl_7 rfl io_196 ?_
                        refine c_X9_wordLong (by omega) S1.1 (fun h2 R2 f2 e2 => ?_)
                        have hG5 := R2.1
                        rw [ok_wl S1]
                        refine s_iadd dX9_thingHere_144 ?_
                        refine s_putiG 16 dX9_thingHere_145 fl_X9_104 kl_7 (by decide) rfl rfl io_196 (z := 16) rfl (by decide +kernel) hG5 (by first | exact hG5.2 _ _ | exact hG.2 _ _ | exact b01_in _ | assumption | exact ⟨by omega, by omega⟩) (fun hG6 => ?_)
                        refine s_iload_n dX9_thingHere_148 rfl ?_
                        have e9 : hs_ h2 196 16 (nb_ T n a + wl__ T n a) 196 16 = wn_ T n a := by rw [hs_eq]; omega
                        have at9 : AT_ h2 (hs_ h2 196 16 (nb_ T n a + wl__ T n a)) := fun x y c => hs_ne _ c
                        have S9 := ok_go (ok_at S1 R2 f2 e2) (rn_at R2 hG6 at9 (by rw [e9]; omega)) (at_aw at9) ((at9 _ _ (by omega)).trans ((f2 _ _ (by omega)).trans ok1)) e9
                        exact s_ireturn dX9_thingHere_149 rfl (k (by unfold mh_; exact ⟨by omega, fun q => by first | omega | exact ⟨by assumption, by assumption⟩, fun q => by first | omega | assumption, fun q => by omega⟩) _ S9 e9)
                      · exact absurd (show (1 : Int) = 0 from c21) (by decide)
                    · exact absurd c20 (by decide)
                · exact absurd c18 (by decide)
set_option maxRecDepth 100000 in
set_option maxHeartbeats 4000000 in
theorem c2_X9_thingHere  (hd : 8 ≤ d) (S : OK9 n T h0 a h) (P : LN_ y h0) (k : mh_ y T n a 2 → ∀ h1 : PH, OK9 n T h0 (wn_ T n a) h1 → h1 196 16 = wn_ T n a → Q.1 (some (0, tT y T n a)) nN h1) (k1 : ¬ mh_ y T n a 2 → ∀ h1 : PH, WR9 n T h0 (nb_ T n a) h1 → Q.1 (some (0, 0)) nN h1) : Cl_ yX9_thingHere MX9_thingHere d bc bs [(2, 196), (0, 2)] nN h Q := by
  refine s_enter pn_X9 rfl (Nat.le_of_ble_eq_true rfl) (L := [(2, _), (0, _), (9, 0), (9, 0)]) rfl ?_
  have hG := S.1.1
  have ab := ok_0 S
  have nb0 := nb_0 S
  have ok := S.2.2.1
  have PH_ := ln_aw P S.2.1
  have yc := ln_c P
  have wle : wl__ T n a = wn_ T n a - nb_ T n a := rfl
  have tpb := tT_bd y T n a
  refine s_aload_n dX9_thingHere_0 rfl ?_
  refine s_getr dX9_thingHere_1 fl_X9_46 kl_7 (by decide) rfl io_196 (z := 23) rfl (rf_7_23 hG.1 io_196) (rk_7_23 io_196).1 ?_
  refine s_aload_n dX9_thingHere_4 rfl ?_
  refine s_geti dX9_thingHere_5 fl_X9_211 kl_7 (by decide) rfl io_196 (z := 19) rfl ?_
  refine s_aload_n dX9_thingHere_8 rfl ?_
  refine s_callV (d' := d - 1) (bc' := 0) (bs' := 0) (as := []) dX9_thingHere_9 vf_X9_201 (dd_ (by omega) (by decide)) ⟨Nat.zero_le _, Nat.zero_le _⟩ rfl rfl (Nat.le_of_ble_eq_true rfl) kl_7 rfl io_196 ?_
  refine c_X9_nameHere (by omega) S (fun h1 S1 e1 => ?_)
  have hG1 := S1.1.1
  have hG := hG1
  have ok1 := S1.2.2.1
  have P1 := ln_aw P S1.2.1
  have nci := nc_in (T := T) (n := n) (a := a)
  rw [PH_.1.1]
  refine s_callS (d' := d - 1) (bc' := 0) (bs' := 0) (as := [_, _, _]) dX9_thingHere_12 sf_X9_207 (dd_ (by omega) (by decide)) ⟨Nat.zero_le _, Nat.zero_le _⟩ rfl rfl (Nat.le_of_ble_eq_true rfl) ?_
  refine c_X9_find (N := 8) (rk_7_23 io_196) hG1 (by decide) (by omega) (by omega) nci ?_
  rw [fT_ P1]
  refine s_istore_n dX9_thingHere_15 (by decide) rfl (L' := [_, _, _, _]) rfl ?_
  refine s_aload_n dX9_thingHere_16 rfl ?_
  refine s_callV (d' := d - 1) (bc' := 0) (bs' := 0) (as := []) dX9_thingHere_17 vf_X9_114 (dd_ (by omega) (by decide)) ⟨Nat.zero_le _, Nat.zero_le _⟩ rfl rfl (Nat.le_of_ble_eq_true rfl) kl_7 rfl io_196 ?_
  refine c_X9_isWrong hG1 ?_
  refine s_if_ne (tgt := 32) dX9_thingHere_20 (by decide) (by first | exact hG1.2 _ _ | exact hG.2 _ _ | exact b01_in _ | assumption | exact ⟨by omega, by omega⟩) (fun c1 => ?_) (fun c1 => ?_)
  · exact absurd ok1 (b01_n.mp c1)
  · have c1 := b01_0.mp c1
    refine s_iload_n dX9_thingHere_23 rfl ?_
    refine s_iconst dX9_thingHere_24 ?_
    refine s_icmp_eq (tgt := 32) dX9_thingHere_25 (by decide) (by first | exact hG1.2 _ _ | exact hG.2 _ _ | exact b01_in _ | assumption | exact ⟨by omega, by omega⟩) (by first | exact hG1.2 _ _ | exact hG.2 _ _ | exact b01_in _ | assumption | exact ⟨by omega, by omega⟩) (fun c2 => ?_) (fun c2 => ?_)
    · refine s_iconst dX9_thingHere_32 ?_
      refine s_istore_n dX9_thingHere_33 (by decide) rfl (L' := [_, _, _, _]) rfl ?_
      refine s_iload_n dX9_thingHere_34 rfl ?_
      refine s_if_eq (tgt := 65) dX9_thingHere_35 (by decide) (by first | exact hG1.2 _ _ | exact hG.2 _ _ | exact b01_in _ | assumption | exact ⟨by omega, by omega⟩) (fun c3 => ?_) (fun c3 => ?_)
      · refine s_iconst dX9_thingHere_65 ?_
        refine s_istore_n dX9_thingHere_66 (by decide) rfl (L' := [_, _, _, _]) rfl ?_
        refine s_iload_n dX9_thingHere_67 rfl ?_
        refine s_if_eq (tgt := 89) dX9_thingHere_68 (by decide) (by first | exact hG1.2 _ _ | exact hG.2 _ _ | exact b01_in _ | assumption | exact ⟨by omega, by omega⟩) (fun c4 => ?_) (fun c4 => ?_)
        · refine s_iconst dX9_thingHere_89 ?_
          refine s_istore_n dX9_thingHere_90 (by decide) rfl (L' := [_, _, _, _]) rfl ?_
          refine s_iload_n dX9_thingHere_91 rfl ?_
          refine s_if_eq (tgt := 119) dX9_thingHere_92 (by decide) (by first | exact hG1.2 _ _ | exact hG.2 _ _ | exact b01_in _ | assumption | exact ⟨by omega, by omega⟩) (fun c5 => ?_) (fun c5 => ?_)
          · refine s_iconst dX9_thingHere_119 ?_
            refine s_istore_n dX9_thingHere_120 (by decide) rfl (L' := [_, _, _, _]) rfl ?_
            refine s_iload_n dX9_thingHere_121 rfl ?_
            refine s_if_ne (tgt := 135) dX9_thingHere_122 (by decide) (by first | exact hG1.2 _ _ | exact hG.2 _ _ | exact b01_in _ | assumption | exact ⟨by omega, by omega⟩) (fun c6 => ?_) (fun c6 => ?_)
            · exact absurd rfl c6
            · refine s_aload_n dX9_thingHere_125 rfl ?_
              refine s_aload_n dX9_thingHere_126 rfl ?_
              refine s_geti dX9_thingHere_127 fl_X9_104 kl_7 (by decide) rfl io_196 (z := 16) rfl ?_
              refine s_callV (d' := d - 1) (bc' := 0) (bs' := 0) (as := [_]) dX9_thingHere_130 vf_X9_137 (dd_ (by omega) (by decide)) ⟨Nat.zero_le _, Nat.zero_le _⟩ rfl rfl (Nat.le_of_ble_eq_true rfl) kl_7 rfl io_196 ?_
              refine c_X9_wrong hG1 (by first | exact hG1.2 _ _ | exact ⟨by omega, by omega⟩) (fun hW gW fW eW => ?_)
              have hG2 := gW
              refine s_iconst dX9_thingHere_133 ?_
              rw [if_pos ok1] at eW
              have SW := wr_of S1 gW (fun x y c => fW x y (by omega)) (fW _ _ (by omega)) (eW.trans e1) nb0.1 (by omega)
              exact s_ireturn dX9_thingHere_134 rfl (k1 (fun q => by unfold mh_ at q; first | exact absurd q.1 (by omega) | exact (q.2.1 rfl).1 (by assumption) | exact (q.2.1 rfl).2 (by assumption) | exact q.2.2.1 rfl (by assumption) | exact absurd (q.2.2.2 rfl) (by omega)) hW SW)
          · exact absurd rfl c5
        · exact absurd rfl c4
      · exact absurd rfl c3
    · refine s_iconst dX9_thingHere_28 ?_
      refine s_goto (tgt := 33) dX9_thingHere_29 (by decide) ?_
      refine s_istore_n dX9_thingHere_33 (by decide) rfl (L' := [_, _, _, _]) rfl ?_
      refine s_iload_n dX9_thingHere_34 rfl ?_
      refine s_if_eq (tgt := 65) dX9_thingHere_35 (by decide) (by first | exact hG1.2 _ _ | exact hG.2 _ _ | exact b01_in _ | assumption | exact ⟨by omega, by omega⟩) (fun c7 => ?_) (fun c7 => ?_)
      · exact absurd (show (1 : Int) = 0 from c7) (by decide)
      · refine s_iload_n dX9_thingHere_38 rfl ?_
        refine s_iconst dX9_thingHere_39 ?_
        refine s_icmp_ne (tgt := 61) dX9_thingHere_40 (by decide) (by first | exact hG1.2 _ _ | exact hG.2 _ _ | exact b01_in _ | assumption | exact ⟨by omega, by omega⟩) (by first | exact hG1.2 _ _ | exact hG.2 _ _ | exact b01_in _ | assumption | exact ⟨by omega, by omega⟩) (fun c8 => ?_) (fun c8 => ?_)
        · refine s_iconst dX9_thingHere_61 ?_
          refine s_goto (tgt := 66) dX9_thingHere_62 (by decide) ?_
          refine s_istore_n dX9_thingHere_66 (by decide) rfl (L' := [_, _, _, _]) rfl ?_
          refine s_iload_n dX9_thingHere_67 rfl ?_
          refine s_if_eq (tgt := 89) dX9_thingHere_68 (by decide) (by first | exact hG1.2 _ _ | exact hG.2 _ _ | exact b01_in _ | assumption | exact ⟨by omega, by omega⟩) (fun c9 => ?_) (fun c9 => ?_)
          · exact absurd (show (1 : Int) = 0 from c9) (by decide)
          · refine s_iload_n dX9_thingHere_71 rfl ?_
            refine s_iconst dX9_thingHere_72 ?_
            refine s_icmp_ne (tgt := 85) dX9_thingHere_73 (by decide) (by first | exact hG1.2 _ _ | exact hG.2 _ _ | exact b01_in _ | assumption | exact ⟨by omega, by omega⟩) (by first | exact hG1.2 _ _ | exact hG.2 _ _ | exact b01_in _ | assumption | exact ⟨by omega, by omega⟩) (fun c10 => ?_) (fun c10 => ?_)
            · exact absurd rfl c10
            · refine s_aload_n dX9_thingHere_76 rfl ?_
              refine s_iconst dX9_thingHere_77 ?_
              refine s_iload_n dX9_thingHere_78 rfl ?_
              refine s_callV (d' := d - 1) (bc' := 0) (bs' := 0) (as := [_, _]) dX9_thingHere_79 vf_X9_217 (dd_ (by omega) (by decide)) ⟨Nat.zero_le _, Nat.zero_le _⟩ rfl rfl (Nat.le_of_ble_eq_true rfl) kl_7 rfl io_196 ?_
              refine c_X9_isOfKind hG1 P1 ⟨by decide, by decide⟩ ⟨by omega, by omega⟩ ?_
              refine s_if_ne (tgt := 89) dX9_thingHere_82 (by decide) (by first | exact hG1.2 _ _ | exact hG.2 _ _ | exact b01_in _ | assumption | exact ⟨by omega, by omega⟩) (fun c11 => ?_) (fun c11 => ?_)
              · have c11 := b01_n.mp c11
                refine s_iconst dX9_thingHere_89 ?_
                refine s_istore_n dX9_thingHere_90 (by decide) rfl (L' := [_, _, _, _]) rfl ?_
                refine s_iload_n dX9_thingHere_91 rfl ?_
                refine s_if_eq (tgt := 119) dX9_thingHere_92 (by decide) (by first | exact hG1.2 _ _ | exact hG.2 _ _ | exact b01_in _ | assumption | exact ⟨by omega, by omega⟩) (fun c12 => ?_) (fun c12 => ?_)
                · refine s_iconst dX9_thingHere_119 ?_
                  refine s_istore_n dX9_thingHere_120 (by decide) rfl (L' := [_, _, _, _]) rfl ?_
                  refine s_iload_n dX9_thingHere_121 rfl ?_
                  refine s_if_ne (tgt := 135) dX9_thingHere_122 (by decide) (by first | exact hG1.2 _ _ | exact hG.2 _ _ | exact b01_in _ | assumption | exact ⟨by omega, by omega⟩) (fun c13 => ?_) (fun c13 => ?_)
                  · exact absurd rfl c13
                  · refine s_aload_n dX9_thingHere_125 rfl ?_
                    refine s_aload_n dX9_thingHere_126 rfl ?_
                    refine s_geti dX9_thingHere_127 fl_X9_104 kl_7 (by decide) rfl io_196 (z := 16) rfl ?_
                    refine s_callV (d' := d - 1) (bc' := 0) (bs' := 0) (as := [_]) dX9_thingHere_130 vf_X9_137 (dd_ (by omega) (by decide)) ⟨Nat.zero_le _, Nat.zero_le _⟩ rfl rfl (Nat.le_of_ble_eq_true rfl) kl_7 rfl io_196 ?_
                    refine c_X9_wrong hG1 (by first | exact hG1.2 _ _ | exact ⟨by omega, by omega⟩) (fun hW gW fW eW => ?_)
                    have hG3 := gW
                    refine s_iconst dX9_thingHere_133 ?_
                    rw [if_pos ok1] at eW
                    have SW := wr_of S1 gW (fun x y c => fW x y (by omega)) (fW _ _ (by omega)) (eW.trans e1) nb0.1 (by omega)
                    exact s_ireturn dX9_thingHere_134 rfl (k1 (fun q => by unfold mh_ at q; first | exact absurd q.1 (by omega) | exact (q.2.1 rfl).1 (by assumption) | exact (q.2.1 rfl).2 (by assumption) | exact q.2.2.1 rfl (by assumption) | exact absurd (q.2.2.2 rfl) (by omega)) hW SW)
                · exact absurd rfl c12
              · have c11 := b01_0.mp c11
                refine s_iconst dX9_thingHere_85 ?_
                refine s_goto (tgt := 90) dX9_thingHere_86 (by decide) ?_
                refine s_istore_n dX9_thingHere_90 (by decide) rfl (L' := [_, _, _, _]) rfl ?_
                refine s_iload_n dX9_thingHere_91 rfl ?_
                refine s_if_eq (tgt := 119) dX9_thingHere_92 (by decide) (by first | exact hG1.2 _ _ | exact hG.2 _ _ | exact b01_in _ | assumption | exact ⟨by omega, by omega⟩) (fun c14 => ?_) (fun c14 => ?_)
                · exact absurd (show (1 : Int) = 0 from c14) (by decide)
                · refine s_iload_n dX9_thingHere_95 rfl ?_
                  refine s_iconst dX9_thingHere_96 ?_
                  refine s_icmp_ne (tgt := 115) dX9_thingHere_97 (by decide) (by first | exact hG1.2 _ _ | exact hG.2 _ _ | exact b01_in _ | assumption | exact ⟨by omega, by omega⟩) (by first | exact hG1.2 _ _ | exact hG.2 _ _ | exact b01_in _ | assumption | exact ⟨by omega, by omega⟩) (fun c15 => ?_) (fun c15 => ?_)
                  · refine s_iconst dX9_thingHere_115 ?_
                    refine s_goto (tgt := 120) dX9_thingHere_116 (by decide) ?_
                    refine s_istore_n dX9_thingHere_120 (by decide) rfl (L' := [_, _, _, _]) rfl ?_
                    refine s_iload_n dX9_thingHere_121 rfl ?_
                    refine s_if_ne (tgt := 135) dX9_thingHere_122 (by decide) (by first | exact hG1.2 _ _ | exact hG.2 _ _ | exact b01_in _ | assumption | exact ⟨by omega, by omega⟩) (fun c16 => ?_) (fun c16 => ?_)
                    · refine s_aload_n dX9_thingHere_135 rfl ?_
                      refine s_dup dX9_thingHere_136 rfl ?_
                      refine s_geti dX9_thingHere_137 fl_X9_104 kl_7 (by decide) rfl io_196 (z := 16) rfl ?_
                      rw [e1]
                      refine s_aload_n dX9_thingHere_140 rfl ?_
                      refine s_callV (d' := d - 1) (bc' := 0) (bs' := 0) (as := []) dX9_thingHere_141 vf_X9_118 (dd_ (by omega) (by decide)) ⟨Nat.zero_le _, Nat.zero_le _⟩ rfl rfl (Nat.le_of_ble_eq_true rfl) kl_7 rfl io_196 ?_
                      refine c_X9_wordLong (by omega) S1.1 (fun h2 R2 f2 e2 => ?_)
                      have hG4 := R2.1
                      rw [ok_wl S1]
                      refine s_iadd dX9_thingHere_144 ?_
                      refine s_putiG 16 dX9_thingHere_145 fl_X9_104 kl_7 (by decide) rfl rfl io_196 (z := 16) rfl (by decide +kernel) hG4 (by first | exact hG4.2 _ _ | exact hG.2 _ _ | exact b01_in _ | assumption | exact ⟨by omega, by omega⟩) (fun hG5 => ?_)
                      refine s_iload_n dX9_thingHere_148 rfl ?_
                      have e9 : hs_ h2 196 16 (nb_ T n a + wl__ T n a) 196 16 = wn_ T n a := by rw [hs_eq]; omega
                      have at9 : AT_ h2 (hs_ h2 196 16 (nb_ T n a + wl__ T n a)) := fun x y c => hs_ne _ c
                      have S9 := ok_go (ok_at S1 R2 f2 e2) (rn_at R2 hG5 at9 (by rw [e9]; omega)) (at_aw at9) ((at9 _ _ (by omega)).trans ((f2 _ _ (by omega)).trans ok1)) e9
                      exact s_ireturn dX9_thingHere_149 rfl (k (by unfold mh_; exact ⟨by omega, fun q => by first | omega | exact ⟨by assumption, by assumption⟩, fun q => by first | omega | assumption, fun q => by omega⟩) _ S9 e9)
                    · exact absurd (show (1 : Int) = 0 from c16) (by decide)
                  · exact absurd c15 (by decide)
        · exact absurd c8 (by decide)
set_option maxRecDepth 100000 in
set_option maxHeartbeats 4000000 in
theorem c3_X9_thingHere  (hd : 8 ≤ d) (S : OK9 n T h0 a h) (P : LN_ y h0) (k : mh_ y T n a 3 → ∀ h1 : PH, OK9 n T h0 (wn_ T n a) h1 → h1 196 16 = wn_ T n a → Q.1 (some (0, tT y T n a)) nN h1) (k1 : ¬ mh_ y T n a 3 → ∀ h1 : PH, WR9 n T h0 (nb_ T n a) h1 → Q.1 (some (0, 0)) nN h1) : Cl_ yX9_thingHere MX9_thingHere d bc bs [(2, 196), (0, 3)] nN h Q := by
  refine s_enter pn_X9 rfl (Nat.le_of_ble_eq_true rfl) (L := [(2, _), (0, _), (9, 0), (9, 0)]) rfl ?_
  have hG := S.1.1
  have ab := ok_0 S
  have nb0 := nb_0 S
  have ok := S.2.2.1
  have PH_ := ln_aw P S.2.1
  have yc := ln_c P
  have wle : wl__ T n a = wn_ T n a - nb_ T n a := rfl
  have tpb := tT_bd y T n a
  refine s_aload_n dX9_thingHere_0 rfl ?_
  refine s_getr dX9_thingHere_1 fl_X9_46 kl_7 (by decide) rfl io_196 (z := 23) rfl (rf_7_23 hG.1 io_196) (rk_7_23 io_196).1 ?_
  refine s_aload_n dX9_thingHere_4 rfl ?_
  refine s_geti dX9_thingHere_5 fl_X9_211 kl_7 (by decide) rfl io_196 (z := 19) rfl ?_
  refine s_aload_n dX9_thingHere_8 rfl ?_
  refine s_callV (d' := d - 1) (bc' := 0) (bs' := 0) (as := []) dX9_thingHere_9 vf_X9_201 (dd_ (by omega) (by decide)) ⟨Nat.zero_le _, Nat.zero_le _⟩ rfl rfl (Nat.le_of_ble_eq_true rfl) kl_7 rfl io_196 ?_
  refine c_X9_nameHere (by omega) S (fun h1 S1 e1 => ?_)
  have hG1 := S1.1.1
  have hG := hG1
  have ok1 := S1.2.2.1
  have P1 := ln_aw P S1.2.1
  have nci := nc_in (T := T) (n := n) (a := a)
  rw [PH_.1.1]
  refine s_callS (d' := d - 1) (bc' := 0) (bs' := 0) (as := [_, _, _]) dX9_thingHere_12 sf_X9_207 (dd_ (by omega) (by decide)) ⟨Nat.zero_le _, Nat.zero_le _⟩ rfl rfl (Nat.le_of_ble_eq_true rfl) ?_
  refine c_X9_find (N := 8) (rk_7_23 io_196) hG1 (by decide) (by omega) (by omega) nci ?_
  rw [fT_ P1]
  refine s_istore_n dX9_thingHere_15 (by decide) rfl (L' := [_, _, _, _]) rfl ?_
  refine s_aload_n dX9_thingHere_16 rfl ?_
  refine s_callV (d' := d - 1) (bc' := 0) (bs' := 0) (as := []) dX9_thingHere_17 vf_X9_114 (dd_ (by omega) (by decide)) ⟨Nat.zero_le _, Nat.zero_le _⟩ rfl rfl (Nat.le_of_ble_eq_true rfl) kl_7 rfl io_196 ?_
  refine c_X9_isWrong hG1 ?_
  refine s_if_ne (tgt := 32) dX9_thingHere_20 (by decide) (by first | exact hG1.2 _ _ | exact hG.2 _ _ | exact b01_in _ | assumption | exact ⟨by omega, by omega⟩) (fun c1 => ?_) (fun c1 => ?_)
  · exact absurd ok1 (b01_n.mp c1)
  · have c1 := b01_0.mp c1
    refine s_iload_n dX9_thingHere_23 rfl ?_
    refine s_iconst dX9_thingHere_24 ?_
    refine s_icmp_eq (tgt := 32) dX9_thingHere_25 (by decide) (by first | exact hG1.2 _ _ | exact hG.2 _ _ | exact b01_in _ | assumption | exact ⟨by omega, by omega⟩) (by first | exact hG1.2 _ _ | exact hG.2 _ _ | exact b01_in _ | assumption | exact ⟨by omega, by omega⟩) (fun c2 => ?_) (fun c2 => ?_)
    · refine s_iconst dX9_thingHere_32 ?_
      refine s_istore_n dX9_thingHere_33 (by decide) rfl (L' := [_, _, _, _]) rfl ?_
      refine s_iload_n dX9_thingHere_34 rfl ?_
      refine s_if_eq (tgt := 65) dX9_thingHere_35 (by decide) (by first | exact hG1.2 _ _ | exact hG.2 _ _ | exact b01_in _ | assumption | exact ⟨by omega, by omega⟩) (fun c3 => ?_) (fun c3 => ?_)
      · refine s_iconst dX9_thingHere_65 ?_
        refine s_istore_n dX9_thingHere_66 (by decide) rfl (L' := [_, _, _, _]) rfl ?_
        refine s_iload_n dX9_thingHere_67 rfl ?_
        refine s_if_eq (tgt := 89) dX9_thingHere_68 (by decide) (by first | exact hG1.2 _ _ | exact hG.2 _ _ | exact b01_in _ | assumption | exact ⟨by omega, by omega⟩) (fun c4 => ?_) (fun c4 => ?_)
        · refine s_iconst dX9_thingHere_89 ?_
          refine s_istore_n dX9_thingHere_90 (by decide) rfl (L' := [_, _, _, _]) rfl ?_
          refine s_iload_n dX9_thingHere_91 rfl ?_
          refine s_if_eq (tgt := 119) dX9_thingHere_92 (by decide) (by first | exact hG1.2 _ _ | exact hG.2 _ _ | exact b01_in _ | assumption | exact ⟨by omega, by omega⟩) (fun c5 => ?_) (fun c5 => ?_)
          · refine s_iconst dX9_thingHere_119 ?_
            refine s_istore_n dX9_thingHere_120 (by decide) rfl (L' := [_, _, _, _]) rfl ?_
            refine s_iload_n dX9_thingHere_121 rfl ?_
            refine s_if_ne (tgt := 135) dX9_thingHere_122 (by decide) (by first | exact hG1.2 _ _ | exact hG.2 _ _ | exact b01_in _ | assumption | exact ⟨by omega, by omega⟩) (fun c6 => ?_) (fun c6 => ?_)
            · exact absurd rfl c6
            · refine s_aload_n dX9_thingHere_125 rfl ?_
              refine s_aload_n dX9_thingHere_126 rfl ?_
              refine s_geti dX9_thingHere_127 fl_X9_104 kl_7 (by decide) rfl io_196 (z := 16) rfl ?_
              refine s_callV (d' := d - 1) (bc' := 0) (bs' := 0) (as := [_]) dX9_thingHere_130 vf_X9_137 (dd_ (by omega) (by decide)) ⟨Nat.zero_le _, Nat.zero_le _⟩ rfl rfl (Nat.le_of_ble_eq_true rfl) kl_7 rfl io_196 ?_
              refine c_X9_wrong hG1 (by first | exact hG1.2 _ _ | exact ⟨by omega, by omega⟩) (fun hW gW fW eW => ?_)
              have hG2 := gW
              refine s_iconst dX9_thingHere_133 ?_
              rw [if_pos ok1] at eW
              have SW := wr_of S1 gW (fun x y c => fW x y (by omega)) (fW _ _ (by omega)) (eW.trans e1) nb0.1 (by omega)
              exact s_ireturn dX9_thingHere_134 rfl (k1 (fun q => by unfold mh_ at q; first | exact absurd q.1 (by omega) | exact (q.2.1 rfl).1 (by assumption) | exact (q.2.1 rfl).2 (by assumption) | exact q.2.2.1 rfl (by assumption) | exact absurd (q.2.2.2 rfl) (by omega)) hW SW)
          · exact absurd rfl c5
        · exact absurd rfl c4
      · exact absurd rfl c3
    · refine s_iconst dX9_thingHere_28 ?_
      refine s_goto (tgt := 33) dX9_thingHere_29 (by decide) ?_
      refine s_istore_n dX9_thingHere_33 (by decide) rfl (L' := [_, _, _, _]) rfl ?_
      refine s_iload_n dX9_thingHere_34 rfl ?_
      refine s_if_eq (tgt := 65) dX9_thingHere_35 (by decide) (by first | exact hG1.2 _ _ | exact hG.2 _ _ | exact b01_in _ | assumption | exact ⟨by omega, by omega⟩) (fun c7 => ?_) (fun c7 => ?_)
      · exact absurd (show (1 : Int) = 0 from c7) (by decide)
      · refine s_iload_n dX9_thingHere_38 rfl ?_
        refine s_iconst dX9_thingHere_39 ?_
        refine s_icmp_ne (tgt := 61) dX9_thingHere_40 (by decide) (by first | exact hG1.2 _ _ | exact hG.2 _ _ | exact b01_in _ | assumption | exact ⟨by omega, by omega⟩) (by first | exact hG1.2 _ _ | exact hG.2 _ _ | exact b01_in _ | assumption | exact ⟨by omega, by omega⟩) (fun c8 => ?_) (fun c8 => ?_)
        · refine s_iconst dX9_thingHere_61 ?_
          refine s_goto (tgt := 66) dX9_thingHere_62 (by decide) ?_
          refine s_istore_n dX9_thingHere_66 (by decide) rfl (L' := [_, _, _, _]) rfl ?_
          refine s_iload_n dX9_thingHere_67 rfl ?_
          refine s_if_eq (tgt := 89) dX9_thingHere_68 (by decide) (by first | exact hG1.2 _ _ | exact hG.2 _ _ | exact b01_in _ | assumption | exact ⟨by omega, by omega⟩) (fun c9 => ?_) (fun c9 => ?_)
          · exact absurd (show (1 : Int) = 0 from c9) (by decide)
          · refine s_iload_n dX9_thingHere_71 rfl ?_
            refine s_iconst dX9_thingHere_72 ?_
            refine s_icmp_ne (tgt := 85) dX9_thingHere_73 (by decide) (by first | exact hG1.2 _ _ | exact hG.2 _ _ | exact b01_in _ | assumption | exact ⟨by omega, by omega⟩) (by first | exact hG1.2 _ _ | exact hG.2 _ _ | exact b01_in _ | assumption | exact ⟨by omega, by omega⟩) (fun c10 => ?_) (fun c10 => ?_)
            · refine s_iconst dX9_thingHere_85 ?_
              refine s_goto (tgt := 90) dX9_thingHere_86 (by decide) ?_
              refine s_istore_n dX9_thingHere_90 (by decide) rfl (L' := [_, _, _, _]) rfl ?_
              refine s_iload_n dX9_thingHere_91 rfl ?_
              refine s_if_eq (tgt := 119) dX9_thingHere_92 (by decide) (by first | exact hG1.2 _ _ | exact hG.2 _ _ | exact b01_in _ | assumption | exact ⟨by omega, by omega⟩) (fun c11 => ?_) (fun c11 => ?_)
              · exact absurd (show (1 : Int) = 0 from c11) (by decide)
              · refine s_iload_n dX9_thingHere_95 rfl ?_
                refine s_iconst dX9_thingHere_96 ?_
                refine s_icmp_ne (tgt := 115) dX9_thingHere_97 (by decide) (by first | exact hG1.2 _ _ | exact hG.2 _ _ | exact b01_in _ | assumption | exact ⟨by omega, by omega⟩) (by first | exact hG1.2 _ _ | exact hG.2 _ _ | exact b01_in _ | assumption | exact ⟨by omega, by omega⟩) (fun c12 => ?_) (fun c12 => ?_)
                · exact absurd rfl c12
                · refine s_aload_n dX9_thingHere_100 rfl ?_
                  refine s_getr dX9_thingHere_101 fl_X9_43 kl_7 (by decide) rfl io_196 (z := 22) rfl (rf_7_22 hG1.1 io_196) (rk_7_22 io_196).1 ?_
                  refine s_iconst dX9_thingHere_104 ?_
                  refine s_iconst dX9_thingHere_105 ?_
                  refine s_iload_n dX9_thingHere_106 rfl ?_
                  refine s_imul dX9_thingHere_107 ?_
                  refine s_iadd dX9_thingHere_108 ?_
                  refine s_iconst dX9_thingHere_109 ?_
                  refine s_iadd dX9_thingHere_110 ?_
                  have er := P1.2.1 (0 + 4 * tT y T n a + 1) (by omega) (by omega)
                  rw [pm_t (j := 8 + tT y T n a) (by omega) (by omega) (by omega) (by omega)] at er
                  refine s_iaload dX9_thingHere_111 (rk_7_22 io_196) (by omega) (by omega) ?_
                  rw [er]
                  have y8 := hG.2 (196 + 10) (0 + 4 * tT y T n a + 1)
                  rw [er] at y8
                  refine s_if_ne (tgt := 119) dX9_thingHere_112 (by decide) (by first | exact hG1.2 _ _ | exact hG.2 _ _ | exact b01_in _ | assumption | exact ⟨by omega, by omega⟩) (fun c13 => ?_) (fun c13 => ?_)
                  · refine s_iconst dX9_thingHere_119 ?_
                    refine s_istore_n dX9_thingHere_120 (by decide) rfl (L' := [_, _, _, _]) rfl ?_
                    refine s_iload_n dX9_thingHere_121 rfl ?_
                    refine s_if_ne (tgt := 135) dX9_thingHere_122 (by decide) (by first | exact hG1.2 _ _ | exact hG.2 _ _ | exact b01_in _ | assumption | exact ⟨by omega, by omega⟩) (fun c14 => ?_) (fun c14 => ?_)
                    · exact absurd rfl c14
                    · refine s_aload_n dX9_thingHere_125 rfl ?_
                      refine s_aload_n dX9_thingHere_126 rfl ?_
                      refine s_geti dX9_thingHere_127 fl_X9_104 kl_7 (by decide) rfl io_196 (z := 16) rfl ?_
                      refine s_callV (d' := d - 1) (bc' := 0) (bs' := 0) (as := [_]) dX9_thingHere_130 vf_X9_137 (dd_ (by omega) (by decide)) ⟨Nat.zero_le _, Nat.zero_le _⟩ rfl rfl (Nat.le_of_ble_eq_true rfl) kl_7 rfl io_196 ?_
                      refine c_X9_wrong hG1 (by first | exact hG1.2 _ _ | exact ⟨by omega, by omega⟩) (fun hW gW fW eW => ?_)
                      have hG3 := gW
                      refine s_iconst dX9_thingHere_133 ?_
                      rw [if_pos ok1] at eW
                      have SW := wr_of S1 gW (fun x y c => fW x y (by omega)) (fW _ _ (by omega)) (eW.trans e1) nb0.1 (by omega)
                      exact s_ireturn dX9_thingHere_134 rfl (k1 (fun q => by unfold mh_ at q; first | exact absurd q.1 (by omega) | exact (q.2.1 rfl).1 (by assumption) | exact (q.2.1 rfl).2 (by assumption) | exact q.2.2.1 rfl (by assumption) | exact absurd (q.2.2.2 rfl) (by omega)) hW SW)
                  · refine s_iconst dX9_thingHere_115 ?_
                    refine s_goto (tgt := 120) dX9_thingHere_116 (by decide) ?_
                    refine s_istore_n dX9_thingHere_120 (by decide) rfl (L' := [_, _, _, _]) rfl ?_
                    refine s_iload_n dX9_thingHere_121 rfl ?_
                    refine s_if_ne (tgt := 135) dX9_thingHere_122 (by decide) (by first | exact hG1.2 _ _ | exact hG.2 _ _ | exact b01_in _ | assumption | exact ⟨by omega, by omega⟩) (fun c15 => ?_) (fun c15 => ?_)
                    · refine s_aload_n dX9_thingHere_135 rfl ?_
                      refine s_dup dX9_thingHere_136 rfl ?_
                      refine s_geti dX9_thingHere_137 fl_X9_104 kl_7 (by decide) rfl io_196 (z := 16) rfl ?_
                      rw [e1]
                      refine s_aload_n dX9_thingHere_140 rfl ?_
                      refine s_callV (d' := d - 1) (bc' := 0) (bs' := 0) (as := []) dX9_thingHere_141 vf_X9_118 (dd_ (by omega) (by decide)) ⟨Nat.zero_le _, Nat.zero_le _⟩ rfl rfl (Nat.le_of_ble_eq_true rfl) kl_7 rfl io_196 ?_
                      refine c_X9_wordLong (by omega) S1.1 (fun h2 R2 f2 e2 => ?_)
                      have hG4 := R2.1
                      rw [ok_wl S1]
                      refine s_iadd dX9_thingHere_144 ?_
                      refine s_putiG 16 dX9_thingHere_145 fl_X9_104 kl_7 (by decide) rfl rfl io_196 (z := 16) rfl (by decide +kernel) hG4 (by first | exact hG4.2 _ _ | exact hG.2 _ _ | exact b01_in _ | assumption | exact ⟨by omega, by omega⟩) (fun hG5 => ?_)
                      refine s_iload_n dX9_thingHere_148 rfl ?_
                      have e9 : hs_ h2 196 16 (nb_ T n a + wl__ T n a) 196 16 = wn_ T n a := by rw [hs_eq]; omega
                      have at9 : AT_ h2 (hs_ h2 196 16 (nb_ T n a + wl__ T n a)) := fun x y c => hs_ne _ c
                      have S9 := ok_go (ok_at S1 R2 f2 e2) (rn_at R2 hG5 at9 (by rw [e9]; omega)) (at_aw at9) ((at9 _ _ (by omega)).trans ((f2 _ _ (by omega)).trans ok1)) e9
                      exact s_ireturn dX9_thingHere_149 rfl (k (by unfold mh_; exact ⟨by omega, fun q => by first | omega | exact ⟨by assumption, by assumption⟩, fun q => by first | omega | assumption, fun q => by omega⟩) _ S9 e9)
                    · exact absurd (show (1 : Int) = 0 from c15) (by decide)
            · exact absurd c10 (by decide)
        · exact absurd c8 (by decide)
set_option maxRecDepth 100000 in
set_option maxHeartbeats 4000000 in
theorem kw_X9_thingHere {v : Int} (hd : 3 ≤ d) (S : WR9 n T h0 f h) (P : LN_ y h0) (k : ∀ h1 : PH, WR9 n T h0 f h1 → Q.1 (some (0, 0)) nN h1) : Cl_ yX9_thingHere MX9_thingHere d bc bs [(2, 196), (0, v)] nN h Q := by
  refine s_enter pn_X9 rfl (Nat.le_of_ble_eq_true rfl) (L := [(2, _), (0, _), (9, 0), (9, 0)]) rfl ?_
  have hG := S.1.1
  have fb := S.2.2.2
  have ok : ¬ h 196 17 = -1 := by have := S.2.2.1; omega
  have PH_ := ln_aw P S.2.1
  have yc := ln_c P
  refine s_aload_n dX9_thingHere_0 rfl ?_
  refine s_getr dX9_thingHere_1 fl_X9_46 kl_7 (by decide) rfl io_196 (z := 23) rfl (rf_7_23 hG.1 io_196) (rk_7_23 io_196).1 ?_
  refine s_aload_n dX9_thingHere_4 rfl ?_
  refine s_geti dX9_thingHere_5 fl_X9_211 kl_7 (by decide) rfl io_196 (z := 19) rfl ?_
  refine s_aload_n dX9_thingHere_8 rfl ?_
  refine s_callV (d' := d - 1) (bc' := 0) (bs' := 0) (as := []) dX9_thingHere_9 vf_X9_201 (dd_ (by omega) (by decide)) ⟨Nat.zero_le _, Nat.zero_le _⟩ rfl rfl (Nat.le_of_ble_eq_true rfl) kl_7 rfl io_196 ?_
  refine kw_X9_nameHere (by omega) S (fun h1 S1 => ?_)
  have hG1 := S1.1.1
  have hG := hG1
  have ok1 : ¬ h1 196 17 = -1 := by have e := S1.2.2.1; have b := S1.2.2.2; omega
  have P1 := ln_aw P S1.2.1
  rw [PH_.1.1]
  refine s_callS (d' := d - 1) (bc' := 0) (bs' := 0) (as := [_, _, _]) dX9_thingHere_12 sf_X9_207 (dd_ (by omega) (by decide)) ⟨Nat.zero_le _, Nat.zero_le _⟩ rfl rfl (Nat.le_of_ble_eq_true rfl) ?_
  refine c_X9_find (N := 8) (rk_7_23 io_196) hG1 (by decide) (by omega) (by omega) ⟨by decide, by decide⟩ ?_
  refine s_istore_n dX9_thingHere_15 (by decide) rfl (L' := [_, _, _, _]) rfl ?_
  refine s_aload_n dX9_thingHere_16 rfl ?_
  refine s_callV (d' := d - 1) (bc' := 0) (bs' := 0) (as := []) dX9_thingHere_17 vf_X9_114 (dd_ (by omega) (by decide)) ⟨Nat.zero_le _, Nat.zero_le _⟩ rfl rfl (Nat.le_of_ble_eq_true rfl) kl_7 rfl io_196 ?_
  refine c_X9_isWrong hG1 ?_
  refine s_if_ne (tgt := 32) dX9_thingHere_20 (by decide) (by first | exact hG1.2 _ _ | exact hG.2 _ _ | exact b01_in _ | assumption | exact ⟨by omega, by omega⟩) (fun c1 => ?_) (fun c1 => ?_)
  · have c1 := b01_n.mp c1
    refine s_iconst dX9_thingHere_32 ?_
    refine s_istore_n dX9_thingHere_33 (by decide) rfl (L' := [_, _, _, _]) rfl ?_
    refine s_iload_n dX9_thingHere_34 rfl ?_
    refine s_if_eq (tgt := 65) dX9_thingHere_35 (by decide) (by first | exact hG1.2 _ _ | exact hG.2 _ _ | exact b01_in _ | assumption | exact ⟨by omega, by omega⟩) (fun c2 => ?_) (fun c2 => ?_)
    · refine s_iconst dX9_thingHere_65 ?_
      refine s_istore_n dX9_thingHere_66 (by decide) rfl (L' := [_, _, _, _]) rfl ?_
      refine s_iload_n dX9_thingHere_67 rfl ?_
      refine s_if_eq (tgt := 89) dX9_thingHere_68 (by decide) (by first | exact hG1.2 _ _ | exact hG.2 _ _ | exact b01_in _ | assumption | exact ⟨by omega, by omega⟩) (fun c3 => ?_) (fun c3 => ?_)
      · refine s_iconst dX9_thingHere_89 ?_
        refine s_istore_n dX9_thingHere_90 (by decide) rfl (L' := [_, _, _, _]) rfl ?_
        refine s_iload_n dX9_thingHere_91 rfl ?_
        refine s_if_eq (tgt := 119) dX9_thingHere_92 (by decide) (by first | exact hG1.2 _ _ | exact hG.2 _ _ | exact b01_in _ | assumption | exact ⟨by omega, by omega⟩) (fun c4 => ?_) (fun c4 => ?_)
        · refine s_iconst dX9_thingHere_119 ?_
          refine s_istore_n dX9_thingHere_120 (by decide) rfl (L' := [_, _, _, _]) rfl ?_
          refine s_iload_n dX9_thingHere_121 rfl ?_
          refine s_if_ne (tgt := 135) dX9_thingHere_122 (by decide) (by first | exact hG1.2 _ _ | exact hG.2 _ _ | exact b01_in _ | assumption | exact ⟨by omega, by omega⟩) (fun c5 => ?_) (fun c5 => ?_)
          · exact absurd rfl c5
          · refine s_aload_n dX9_thingHere_125 rfl ?_
            refine s_aload_n dX9_thingHere_126 rfl ?_
            refine s_geti dX9_thingHere_127 fl_X9_104 kl_7 (by decide) rfl io_196 (z := 16) rfl ?_
            refine s_callV (d' := d - 1) (bc' := 0) (bs' := 0) (as := [_]) dX9_thingHere_130 vf_X9_137 (dd_ (by omega) (by decide)) ⟨Nat.zero_le _, Nat.zero_le _⟩ rfl rfl (Nat.le_of_ble_eq_true rfl) kl_7 rfl io_196 ?_
            refine c_X9_wrong hG1 (by first | exact hG1.2 _ _ | exact ⟨by omega, by omega⟩) (fun hW gW fW eW => ?_)
            have hG2 := gW
            refine s_iconst dX9_thingHere_133 ?_
            rw [if_neg ok1] at eW
            have SW := wr_wr S1 gW fW eW
            exact s_ireturn dX9_thingHere_134 rfl (k hW SW)
        · exact absurd rfl c4
      · exact absurd rfl c3
    · exact absurd rfl c2
  · exact absurd (b01_0.mp c1) (fun q => q ok1)
end X9R
