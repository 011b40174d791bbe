/-! WillHouse: numbers told; as if -/
section X8G
variable {d bc bs : Nat} {Q : PQ} {h z : PH}
def zmt (t : Int) : Int := if t < 2 then 99999 else if t = 2 then 240 else if t = 3 then 99 else 1
theorem zmt_of {t : Int} (t0 : 0 ≤ t) (t1 : t < 5) : mtd_.getD t.toNat 0 = zmt t := by
  rcases (by omega : t = 0 ∨ t = 1 ∨ t = 2 ∨ t = 3 ∨ t = 4) with e | e | e | e | e <;> subst e <;> rfl
theorem zmt_bd (t : Int) : 1 ≤ zmt t ∧ zmt t ≤ 99999 := by
  unfold zmt
  split
  · omega
  · split
    · omega
    · split <;> omega
theorem zmt_in {t v : Int} (v1 : v ≤ zmt t) : (t = 0 ∨ t = 1 → v ≤ 99999) ∧ (t = 2 → v ≤ 240) ∧ (t = 3 → v ≤ 99) ∧ (t = 4 → v ≤ 1) := by
  unfold zmt at v1
  refine ⟨fun e => ?_, fun e => ?_, fun e => ?_, fun e => ?_⟩
  · rw [if_pos (by omega)] at v1; omega
  · rw [if_neg (by omega), if_pos e] at v1; omega
  · rw [if_neg (by omega), if_neg (by omega), if_pos e] at v1; omega
  · rw [if_neg (by omega), if_neg (by omega), if_neg (by omega)] at v1; omega
set_option maxRecDepth 100000 in
set_option maxHeartbeats 4000000 in
theorem c_X8_set {t v : Int} (hd : 10 ≤ d) (hbc : 8 ≤ bc) (hbs : 48 ≤ bs) (C : CR_ h z) (ht : inI t) (hv : inI v) (k : 0 ≤ t → t < 5 → 0 ≤ v → v ≤ zmt t → ∀ h1 : PH, CR_ h1 (zact z (fu_ (z 1) (56 + t) v)) → FC h h1 → Q.1 (some (0, z 1 (56 + t))) nN h1) (k1 : ¬ (0 ≤ t ∧ t < 5) → TH_ Q h z vy_X) (k2 : 0 ≤ t → t < 5 → ¬ (0 ≤ v ∧ v ≤ zmt t) → TH_ Q h z IAE) : Cl_ yX8_set MX8_set d bc bs [(2, 0), (0, t), (0, v)] nN h Q := by
  refine s_enter pn_X8 rfl (Nat.le_of_ble_eq_true rfl) (L := [(2, _), (0, _), (0, _), (9, 0)]) rfl ?_
  have hG := cr_g C
  have I := cr_i C
  obtain ⟨w, hw, W, hwf, P, CN⟩ := cr_w C
  have fc := FC.rf h
  have hT := I.2.1
  have hP := I.2.2.1
  have hN := I.2.2.2.1
  have e1 := C.2.2.2.2.2.2.1.1
  have b50 := (cr_b C).1
  have bm := zmt_bd t
  refine s_iload_n dX8_set_0 rfl ?_
  refine s_if_lt (tgt := 9) dX8_set_1 (by decide) (by first | exact hG.2 _ _ | exact b01_in _ | assumption | exact ⟨by omega, by omega⟩) (fun c1 => ?_) (fun c1 => ?_)
  · refine s_throwN (w9 := 6) nh_0 dX8_set_9 dX8_set_12 (Or.inl ⟨rfl, dX8_set_13⟩) dX8_set_15 dX8_set_18 ts_X8_138_241_142 (by omega) (by omega) (by omega) (Nat.le_of_ble_eq_true rfl) ?_
    exact k1 (by omega) h C (FC.rf h)
  · refine s_iload_n dX8_set_4 rfl ?_
    refine s_iconst dX8_set_5 ?_
    refine s_icmp_lt (tgt := 19) dX8_set_6 (by decide) (by first | exact hG.2 _ _ | exact b01_in _ | assumption | exact ⟨by omega, by omega⟩) (by first | exact hG.2 _ _ | exact b01_in _ | assumption | exact ⟨by omega, by omega⟩) (fun c2 => ?_) (fun c2 => ?_)
    · refine s_iload_n dX8_set_19 rfl ?_
      refine s_if_lt (tgt := 32) dX8_set_20 (by decide) (by first | exact hG.2 _ _ | exact b01_in _ | assumption | exact ⟨by omega, by omega⟩) (fun c3 => ?_) (fun c3 => ?_)
      · refine s_throw nh_0 dX8_set_32 dX8_set_35 dX8_set_36 dX8_set_38 dX8_set_41 ts_X8_207_246_211 bf_IAE (by omega) (by omega) (by omega) (Nat.le_of_ble_eq_true rfl) ?_
        exact k2 (by omega) (by omega) (by omega) h C (FC.rf h)
      · refine s_iload_n dX8_set_23 rfl ?_
        refine s_getsr dX8_set_24 (C := "WillHouse") (nm := "MOST_TOLD") (ds := "[I") (ref := "") (z := 1302) (by decide +kernel) fl_X8_243 ?_
        refine s_iload_n dX8_set_27 rfl ?_
        refine s_kiaload dX8_set_28 (z := 1302) (k := 5) (f := fun i => mtd_.getD i 0) (fun _ _ _ _ K => K.2.2.2.2.2.2.1) (by decide) (by omega) (by omega) (v := zmt t) (zmt_of (by omega) (by omega)) ?_
        refine s_icmp_le (tgt := 42) dX8_set_29 (by decide) (by first | exact hG.2 _ _ | exact b01_in _ | assumption | exact ⟨by omega, by omega⟩) (by first | exact hG.2 _ _ | exact b01_in _ | assumption | exact ⟨by omega, by omega⟩) (fun c4 => ?_) (fun c4 => ?_)
        · refine s_aload_n dX8_set_42 rfl ?_
          refine s_callV (d' := d - 1) (bc' := 0) (bs' := 0) (as := []) dX8_set_43 vf_X8_198 (dd_ (by omega) (by decide)) ⟨Nat.zero_le _, Nat.zero_le _⟩ rfl rfl (Nat.le_of_ble_eq_true rfl) kl_6 rfl io_0 ?_
          refine c_X8_beginAct (by omega) C (fun h1 A1 => ?_)
          have hG1 := cr_g A1.1
          have I := cr_i A1.1
          obtain ⟨w, hw, W, hwf, P, CN⟩ := cr_w A1.1
          have k0 := zkeep_lo (z := z) 0 (by omega)
          have k1_ := zkeep_lo (z := z) 1 (by omega)
          refine s_aload_n dX8_set_46 rfl ?_
          refine s_getr dX8_set_47 fl_X8_32 kl_6 (by decide) rfl io_0 (z := 4) rfl (rf_6_4 hG1.1 io_0) (rk_6_4 io_0).1 ?_
          refine s_iload_n dX8_set_50 rfl ?_
          refine s_callV (d' := d - 1) (bc' := 0) (bs' := 0) (as := [_]) dX8_set_51 vf_X8_204 (dd_ (by omega) (by decide)) ⟨Nat.zero_le _, Nat.zero_le _⟩ rfl rfl (Nat.le_of_ble_eq_true rfl) kl_1 rfl (rk_6_4 io_0) ?_
          refine c_X2_told (rk_6_4 io_0) hG1 (by omega) (by omega) ?_
          rw [P.2.1 _ (by omega) (by omega), k1_]
          refine s_istore_n dX8_set_54 (by decide) rfl (L' := [_, _, _, _]) rfl ?_
          refine s_aload_n dX8_set_55 rfl ?_
          refine s_getr dX8_set_56 fl_X8_32 kl_6 (by decide) rfl io_0 (z := 4) rfl (rf_6_4 hG1.1 io_0) (rk_6_4 io_0).1 ?_
          refine s_iload_n dX8_set_59 rfl ?_
          refine s_iload_n dX8_set_60 rfl ?_
          refine s_callV (d' := d - 1) (bc' := 0) (bs' := 0) (as := [_, _]) dX8_set_61 vf_X8_248 (dd_ (by omega) (by decide)) ⟨Nat.zero_le _, Nat.zero_le _⟩ rfl rfl (Nat.le_of_ble_eq_true rfl) kl_1 rfl (rk_6_4 io_0) ?_
          refine cf_told A1 (by omega) (by omega) (by omega) (zmt_in (by omega)) (fun h2 A2 => ?_)
          have hG2 := cr_g A2.1
          rw [k1_] at A2
          refine s_iload_n dX8_set_64 rfl ?_
          refine s_ireturn dX8_set_65 rfl ?_
          exact k (by omega) (by omega) (by omega) (by omega) h2 A2.1 A2.2.2
        · refine s_throw nh_0 dX8_set_32 dX8_set_35 dX8_set_36 dX8_set_38 dX8_set_41 ts_X8_207_246_211 bf_IAE (by omega) (by omega) (by omega) (Nat.le_of_ble_eq_true rfl) ?_
          exact k2 (by omega) (by omega) (by omega) h C (FC.rf h)
    · refine s_throwN (w9 := 6) nh_0 dX8_set_9 dX8_set_12 (Or.inl ⟨rfl, dX8_set_13⟩) dX8_set_15 dX8_set_18 ts_X8_138_241_142 (by omega) (by omega) (by omega) (Nat.le_of_ble_eq_true rfl) ?_
      exact k1 (by omega) h C (FC.rf h)
theorem pr_su {h0 h z : PH} {F : Int → Int} {w : Int} (S : SU_ h0 h z F) (P : PR_ h w (0 + 79) z) : PR_ h w (0 + 146) (zput z F) := by
  obtain ⟨⟨a1, a2, a3⟩, a4, a5, a6⟩ := P
  unfold PR_
  rw [zkn_to (z := z) (zput_ne (by omega)) (zput_ne (by omega)), zput_1, zput_ne (x := 0) (by omega), zput_ne (x := 2) (by omega), zput_ne (x := 3) (by omega), zput_ne (x := 5) (by omega), zput_ne (x := 6) (by omega), zput_ne (x := 7) (by omega), zput_ne (x := 8) (by omega), zput_ne (x := 9) (by omega)]
  exact ⟨⟨a1, a2, a3⟩, S.2.2, a5, a6⟩
noncomputable def ev_ (sk : Int → Prop) (f : Int → Int) : Nat → Int → Int → Int → Int
  | 0, _, b, _ => b
  | m + 1, p, b, v => @ite _ (sk p) (Classical.propDecidable _) (ev_ sk f m (p + 1) b v) (if v < f p then ev_ sk f m (p + 1) p (f p) else ev_ sk f m (p + 1) b v)
theorem ev_s {sk : Int → Prop} {f : Int → Int} {m : Nat} {p b v : Int} (h : sk p) : ev_ sk f (m + 1) p b v = ev_ sk f m (p + 1) b v := by
  rw [ev_, if_pos h]
theorem ev_t {sk : Int → Prop} {f : Int → Int} {m : Nat} {p b v : Int} (h : ¬ sk p) (e : v < f p) : ev_ sk f (m + 1) p b v = ev_ sk f m (p + 1) p (f p) := by
  rw [ev_, if_neg h, if_pos e]
theorem ev_f {sk : Int → Prop} {f : Int → Int} {m : Nat} {p b v : Int} (h : ¬ sk p) (e : ¬ v < f p) : ev_ sk f (m + 1) p b v = ev_ sk f m (p + 1) b v := by
  rw [ev_, if_neg h, if_neg e]
/-- what p would take if q had died -/
noncomputable def zifd (z : PH) (p q : Int) : Int := zta (zput z (fu_ (z 1) (32 + q) 1)) p
noncomputable def zenv (z : PH) (p : Int) : Int := ev_ (fun q => q = p ∨ ¬ z 1 (32 + q) = 0) (zifd z p) (z 0 1).toNat 0 (-1) (-1)
end X8G
