/-! the reference reads: names -/
theorem or_5 {a b : Nat} (ha : a < 67108864) (hb : b < 32) : Int32.ofInt ((32 * a : Nat) : Int) ||| Int32.ofInt (b : Int) = Int32.ofInt ((32 * a + b : Nat) : Int) := by
  apply Int32.toBitVec_inj.mp
  apply BitVec.eq_of_toNat_eq
  have e := Nat.two_pow_add_eq_or_of_lt (i := 5) (b := b) (by omega) a
  show (BitVec.ofInt 32 ((32 * a : Nat) : Int) ||| BitVec.ofInt 32 (b : Int)).toNat = (BitVec.ofInt 32 ((32 * a + b : Nat) : Int)).toNat
  rw [BitVec.toNat_or, BitVec.toNat_ofInt, BitVec.toNat_ofInt, BitVec.toNat_ofInt]
  rw [show (((32 * a : Nat) : Int) % ((2 ^ 32 : Nat) : Int)).toNat = 32 * a by omega, show ((b : Int) % ((2 ^ 32 : Nat) : Int)).toNat = b by omega, show (((32 * a + b : Nat) : Int) % ((2 ^ 32 : Nat) : Int)).toNat = 32 * a + b by omega]
  exact e.symm
theorem s_ior {E : EP} {M : PM} {d bc bs : Nat} {Q : PQ} {pc : Nat} {L st : List PV} {N : Nat} {h : PH} {x y : Int} (hd : decode M.2.1 pc = .ok (.ior, 1)) (x0 : 0 ≤ x) (x1 : x < 67108864) (y0 : 0 ≤ y) (y1 : y < 32) (kk : SE_ E M d bc bs Q (pc + 1) L ((0, x * 32 + y) :: st) N h) : SE_ E M d bc bs Q pc L ((0, y) :: (0, x * 2 ^ (5 : Int).toNat) :: st) N h := by
  intro l s0 D dA ad p e R s m args below meth c H locs cells slots mc ms ls hG hC hW hL
  refine lv_ior (cx_ex hC) (cx_cb hC) hd ?_
  have e9 := or_5 (a := x.toNat) (b := y.toNat) (by omega) (by omega)
  rw [show ((32 * x.toNat : Nat) : Int) = x * 2 ^ (5 : Int).toNat by show _ = x * 32; omega, show ((y.toNat : Nat) : Int) = y by omega, show ((32 * x.toNat + y.toNat : Nat) : Int) = x * 32 + y by omega] at e9
  rw [e9]
  exact kk l s0 D dA ad p e R s m args below meth c H locs cells slots mc ms ls hG hC hW hL
theorem kw_23 {T : Int → Int} {s l : Int} (H : ∀ j : Nat, j < 23 → ¬ iw_ T s l j) : wi_ T s l = 23 := by
  have le := wi_le (T := T) (s := s) (l := l)
  by_cases c : wi_ T s l < 23
  · exact absurd ((wi_iff c).mp rfl) (H _ c)
  · omega
theorem kw_t {T : Int → Int} {s l : Int} {j : Nat} (hj : j < 23) (c : iw_ T s l (24 + j)) : ¬ wi_ T s l = 23 := by
  rw [(wi_iff hj).mpr ((iw_24 hj).mp c)]
  omega
/-- the code of the name that stands at a; 0 where none does -/
noncomputable def nc_ (T : Int → Int) (n a : Int) : Int := iC (okU T n a) (ec_ (fun k => T (nb_ T n a + k)) (wl__ T n a).toNat) 0
theorem we_lq {T : Int → Int} {n a : Int} : lq_ (fun k => T (nb_ T n a + k)) (wl__ T n a).toNat := fun j j0 j1 => by
  refine ru_al (P := fun i => 97 ≤ T i ∧ T i ≤ 122) (n - nb_ T n a).toNat (nb_ T n a) (nb_ T n a + j) (by omega) ?_
  show nb_ T n a + j < wn_ T n a
  unfold wl__ at j1
  omega
section X9Q
variable {d bc bs : Nat} {Q : PQ} {h h0 : PH} {n a f : Int} {T : Int → Int}
set_option maxRecDepth 100000 in
set_option maxHeartbeats 4000000 in
theorem c_X9_isKeyword  (hd : 6 ≤ d) (S : OK9 n T h0 a h) (k : ∀ h1 : PH, OK9 n T h0 a h1 → h1 196 16 = nb_ T n a → Q.1 (some (0, b01 (¬ wi_ T (nb_ T n a) (wl__ T n a) = 23))) nN h1) : Cl_ yX9_isKeyword MX9_isKeyword d bc bs [(2, 196)] nN h Q := by
  refine s_enter pn_X9 rfl (Nat.le_of_ble_eq_true rfl) (L := [(2, _), (9, 0)]) rfl ?_
  refine s_aload_n dX9_isKeyword_0 rfl ?_
  refine s_ldcS (j := 0) (z := 1000 + ((24 + 0 : Nat) : Int)) dX9_isKeyword_1 (by decide) rfl rfl (by decide) ?_
  refine s_callV (d' := d - 1) (bc' := 0) (bs' := 0) (as := [_]) dX9_isKeyword_3 vf_X9_130 (dd_ (by omega) (by decide)) ⟨Nat.zero_le _, Nat.zero_le _⟩ rfl rfl (Nat.le_of_ble_eq_true rfl) kl_7 rfl io_196 ?_
  refine k_isWord (j := 24 + 0) (by decide) (by omega) S (fun hhG1 ShG1 ehG1 => ?_)
  have S := ShG1
  have e16 := ehG1
  have hG1 := ShG1.1.1
  refine s_if_ne (tgt := 99) dX9_isKeyword_6 (by decide) (by first | exact hG1.2 _ _ | exact hG.2 _ _ | exact b01_in _ | assumption | exact ⟨by omega, by omega⟩) (fun c1 => ?_) (fun c1 => ?_)
  · have c1 := b01_n.mp c1
    refine s_iconst dX9_isKeyword_99 ?_
    refine s_goto (tgt := 104) dX9_isKeyword_100 (by decide) ?_
    refine s_istore_n dX9_isKeyword_104 (by decide) rfl (L' := [_, _]) rfl ?_
    refine s_iload_n dX9_isKeyword_105 rfl ?_
    refine s_if_ne (tgt := 217) dX9_isKeyword_106 (by decide) (by first | exact hG1.2 _ _ | exact hG.2 _ _ | exact b01_in _ | assumption | exact ⟨by omega, by omega⟩) (fun c2 => ?_) (fun c2 => ?_)
    · refine s_iconst dX9_isKeyword_217 ?_
      refine s_goto (tgt := 222) dX9_isKeyword_218 (by decide) ?_
      exact s_zreturn dX9_isKeyword_222 rfl (Or.inr rfl) (q_val (b01_t (c := ¬ wi_ T (nb_ T n a) (wl__ T n a) = 23) (kw_t (j := 0) (by decide) c1)) (k _ S e16))
    · exact absurd (show (1 : Int) = 0 from c2) (by decide)
  · have c1 := b01_0.mp c1
    refine s_aload_n dX9_isKeyword_9 rfl ?_
    refine s_ldcS (j := 1) (z := 1000 + ((24 + 1 : Nat) : Int)) dX9_isKeyword_10 (by decide) rfl rfl (by decide) ?_
    refine s_callV (d' := d - 1) (bc' := 0) (bs' := 0) (as := [_]) dX9_isKeyword_12 vf_X9_130 (dd_ (by omega) (by decide)) ⟨Nat.zero_le _, Nat.zero_le _⟩ rfl rfl (Nat.le_of_ble_eq_true rfl) kl_7 rfl io_196 ?_
    refine k_isWord (j := 24 + 1) (by decide) (by omega) S (fun hhG2 ShG2 ehG2 => ?_)
    have S := ShG2
    have e16 := ehG2
    have hG2 := ShG2.1.1
    refine s_if_ne (tgt := 99) dX9_isKeyword_15 (by decide) (by first | exact hG2.2 _ _ | exact hG.2 _ _ | exact b01_in _ | assumption | exact ⟨by omega, by omega⟩) (fun c3 => ?_) (fun c3 => ?_)
    · have c3 := b01_n.mp c3
      refine s_iconst dX9_isKeyword_99 ?_
      refine s_goto (tgt := 104) dX9_isKeyword_100 (by decide) ?_
      refine s_istore_n dX9_isKeyword_104 (by decide) rfl (L' := [_, _]) rfl ?_
      refine s_iload_n dX9_isKeyword_105 rfl ?_
      refine s_if_ne (tgt := 217) dX9_isKeyword_106 (by decide) (by first | exact hG2.2 _ _ | exact hG.2 _ _ | exact b01_in _ | assumption | exact ⟨by omega, by omega⟩) (fun c4 => ?_) (fun c4 => ?_)
      · refine s_iconst dX9_isKeyword_217 ?_
        refine s_goto (tgt := 222) dX9_isKeyword_218 (by decide) ?_
        exact s_zreturn dX9_isKeyword_222 rfl (Or.inr rfl) (q_val (b01_t (c := ¬ wi_ T (nb_ T n a) (wl__ T n a) = 23) (kw_t (j := 1) (by decide) c3)) (k _ S e16))
      · exact absurd (show (1 : Int) = 0 from c4) (by decide)
    · have c3 := b01_0.mp c3
      refine s_aload_n dX9_isKeyword_18 rfl ?_
      refine s_ldcS (j := 2) (z := 1000 + ((24 + 2 : Nat) : Int)) dX9_isKeyword_19 (by decide) rfl rfl (by decide) ?_
      refine s_callV (d' := d - 1) (bc' := 0) (bs' := 0) (as := [_]) dX9_isKeyword_21 vf_X9_130 (dd_ (by omega) (by decide)) ⟨Nat.zero_le _, Nat.zero_le _⟩ rfl rfl (Nat.le_of_ble_eq_true rfl) kl_7 rfl io_196 ?_
      refine k_isWord (j := 24 + 2) (by decide) (by omega) S (fun hhG3 ShG3 ehG3 => ?_)
      have S := ShG3
      have e16 := ehG3
      have hG3 := ShG3.1.1
      refine s_if_ne (tgt := 99) dX9_isKeyword_24 (by decide) (by first | exact hG3.2 _ _ | exact hG.2 _ _ | exact b01_in _ | assumption | exact ⟨by omega, by omega⟩) (fun c5 => ?_) (fun c5 => ?_)
      · have c5 := b01_n.mp c5
        refine s_iconst dX9_isKeyword_99 ?_
        refine s_goto (tgt := 104) dX9_isKeyword_100 (by decide) ?_
        refine s_istore_n dX9_isKeyword_104 (by decide) rfl (L' := [_, _]) rfl ?_
        refine s_iload_n dX9_isKeyword_105 rfl ?_
        refine s_if_ne (tgt := 217) dX9_isKeyword_106 (by decide) (by first | exact hG3.2 _ _ | exact hG.2 _ _ | exact b01_in _ | assumption | exact ⟨by omega, by omega⟩) (fun c6 => ?_) (fun c6 => ?_)
        · refine s_iconst dX9_isKeyword_217 ?_
          refine s_goto (tgt := 222) dX9_isKeyword_218 (by decide) ?_
          exact s_zreturn dX9_isKeyword_222 rfl (Or.inr rfl) (q_val (b01_t (c := ¬ wi_ T (nb_ T n a) (wl__ T n a) = 23) (kw_t (j := 2) (by decide) c5)) (k _ S e16))
        · exact absurd (show (1 : Int) = 0 from c6) (by decide)
      · have c5 := b01_0.mp c5
        refine s_aload_n dX9_isKeyword_27 rfl ?_
        refine s_ldcS (j := 3) (z := 1000 + ((24 + 3 : Nat) : Int)) dX9_isKeyword_28 (by decide) rfl rfl (by decide) ?_
        refine s_callV (d' := d - 1) (bc' := 0) (bs' := 0) (as := [_]) dX9_isKeyword_30 vf_X9_130 (dd_ (by omega) (by decide)) ⟨Nat.zero_le _, Nat.zero_le _⟩ rfl rfl (Nat.le_of_ble_eq_true rfl) kl_7 rfl io_196 ?_
        refine k_isWord (j := 24 + 3) (by decide) (by omega) S (fun hhG4 ShG4 ehG4 => ?_)
        have S := ShG4
        have e16 := ehG4
        have hG4 := ShG4.1.1
        refine s_if_ne (tgt := 99) dX9_isKeyword_33 (by decide) (by first | exact hG4.2 _ _ | exact hG.2 _ _ | exact b01_in _ | assumption | exact ⟨by omega, by omega⟩) (fun c7 => ?_) (fun c7 => ?_)
        · have c7 := b01_n.mp c7
          refine s_iconst dX9_isKeyword_99 ?_
          refine s_goto (tgt := 104) dX9_isKeyword_100 (by decide) ?_
          refine s_istore_n dX9_isKeyword_104 (by decide) rfl (L' := [_, _]) rfl ?_
          refine s_iload_n dX9_isKeyword_105 rfl ?_
          refine s_if_ne (tgt := 217) dX9_isKeyword_106 (by decide) (by first | exact hG4.2 _ _ | exact hG.2 _ _ | exact b01_in _ | assumption | exact ⟨by omega, by omega⟩) (fun c8 => ?_) (fun c8 => ?_)
          · refine s_iconst dX9_isKeyword_217 ?_
            refine s_goto (tgt := 222) dX9_isKeyword_218 (by decide) ?_
            exact s_zreturn dX9_isKeyword_222 rfl (Or.inr rfl) (q_val (b01_t (c := ¬ wi_ T (nb_ T n a) (wl__ T n a) = 23) (kw_t (j := 3) (by decide) c7)) (k _ S e16))
          · exact absurd (show (1 : Int) = 0 from c8) (by decide)
        · have c7 := b01_0.mp c7
          refine s_aload_n dX9_isKeyword_36 rfl ?_
          refine s_ldcS (j := 4) (z := 1000 + ((24 + 4 : Nat) : Int)) dX9_isKeyword_37 (by decide) rfl rfl (by decide) ?_
          refine s_callV (d' := d - 1) (bc' := 0) (bs' := 0) (as := [_]) dX9_isKeyword_39 vf_X9_130 (dd_ (by omega) (by decide)) ⟨Nat.zero_le _, Nat.zero_le _⟩ rfl rfl (Nat.le_of_ble_eq_true rfl) kl_7 rfl io_196 ?_
          refine k_isWord (j := 24 + 4) (by decide) (by omega) S (fun hhG5 ShG5 ehG5 => ?_)
          have S := ShG5
          have e16 := ehG5
          have hG5 := ShG5.1.1
          refine s_if_ne (tgt := 99) dX9_isKeyword_42 (by decide) (by first | exact hG5.2 _ _ | exact hG.2 _ _ | exact b01_in _ | assumption | exact ⟨by omega, by omega⟩) (fun c9 => ?_) (fun c9 => ?_)
          · have c9 := b01_n.mp c9
            refine s_iconst dX9_isKeyword_99 ?_
            refine s_goto (tgt := 104) dX9_isKeyword_100 (by decide) ?_
            refine s_istore_n dX9_isKeyword_104 (by decide) rfl (L' := [_, _]) rfl ?_
            refine s_iload_n dX9_isKeyword_105 rfl ?_
            refine s_if_ne (tgt := 217) dX9_isKeyword_106 (by decide) (by first | exact hG5.2 _ _ | exact hG.2 _ _ | exact b01_in _ | assumption | exact ⟨by omega, by omega⟩) (fun c10 => ?_) (fun c10 => ?_)
            · refine s_iconst dX9_isKeyword_217 ?_
              refine s_goto (tgt := 222) dX9_isKeyword_218 (by decide) ?_
              exact s_zreturn dX9_isKeyword_222 rfl (Or.inr rfl) (q_val (b01_t (c := ¬ wi_ T (nb_ T n a) (wl__ T n a) = 23) (kw_t (j := 4) (by decide) c9)) (k _ S e16))
            · exact absurd (show (1 : Int) = 0 from c10) (by decide)
          · have c9 := b01_0.mp c9
            refine s_aload_n dX9_isKeyword_45 rfl ?_
            refine s_ldcS (j := 5) (z := 1000 + ((24 + 5 : Nat) : Int)) dX9_isKeyword_46 (by decide) rfl rfl (by decide) ?_
            refine s_callV (d' := d - 1) (bc' := 0) (bs' := 0) (as := [_]) dX9_isKeyword_48 vf_X9_130 (dd_ (by omega) (by decide)) ⟨Nat.zero_le _, Nat.zero_le _⟩ rfl rfl (Nat.le_of_ble_eq_true rfl) kl_7 rfl io_196 ?_
            refine k_isWord (j := 24 + 5) (by decide) (by omega) S (fun hhG6 ShG6 ehG6 => ?_)
            have S := ShG6
            have e16 := ehG6
            have hG6 := ShG6.1.1
            refine s_if_ne (tgt := 99) dX9_isKeyword_51 (by decide) (by first | exact hG6.2 _ _ | exact hG.2 _ _ | exact b01_in _ | assumption | exact ⟨by omega, by omega⟩) (fun c11 => ?_) (fun c11 => ?_)
            · have c11 := b01_n.mp c11
              refine s_iconst dX9_isKeyword_99 ?_
              refine s_goto (tgt := 104) dX9_isKeyword_100 (by decide) ?_
              refine s_istore_n dX9_isKeyword_104 (by decide) rfl (L' := [_, _]) rfl ?_
              refine s_iload_n dX9_isKeyword_105 rfl ?_
              refine s_if_ne (tgt := 217) dX9_isKeyword_106 (by decide) (by first | exact hG6.2 _ _ | exact hG.2 _ _ | exact b01_in _ | assumption | exact ⟨by omega, by omega⟩) (fun c12 => ?_) (fun c12 => ?_)
              · refine s_iconst dX9_isKeyword_217 ?_
                refine s_goto (tgt := 222) dX9_isKeyword_218 (by decide) ?_
                exact s_zreturn dX9_isKeyword_222 rfl (Or.inr rfl) (q_val (b01_t (c := ¬ wi_ T (nb_ T n a) (wl__ T n a) = 23) (kw_t (j := 5) (by decide) c11)) (k _ S e16))
              · exact absurd (show (1 : Int) = 0 from c12) (by decide)
            · have c11 := b01_0.mp c11
              refine s_aload_n dX9_isKeyword_54 rfl ?_
              refine s_ldcS (j := 6) (z := 1000 + ((24 + 6 : Nat) : Int)) dX9_isKeyword_55 (by decide) rfl rfl (by decide) ?_
              refine s_callV (d' := d - 1) (bc' := 0) (bs' := 0) (as := [_]) dX9_isKeyword_57 vf_X9_130 (dd_ (by omega) (by decide)) ⟨Nat.zero_le _, Nat.zero_le _⟩ rfl rfl (Nat.le_of_ble_eq_true rfl) kl_7 rfl io_196 ?_
              refine k_isWord (j := 24 + 6) (by decide) (by omega) S (fun hhG7 ShG7 ehG7 => ?_)
              have S := ShG7
              have e16 := ehG7
              have hG7 := ShG7.1.1
              refine s_if_ne (tgt := 99) dX9_isKeyword_60 (by decide) (by first | exact hG7.2 _ _ | exact hG.2 _ _ | exact b01_in _ | assumption | exact ⟨by omega, by omega⟩) (fun c13 => ?_) (fun c13 => ?_)
              · have c13 := b01_n.mp c13
                refine s_iconst dX9_isKeyword_99 ?_
                refine s_goto (tgt := 104) dX9_isKeyword_100 (by decide) ?_
                refine s_istore_n dX9_isKeyword_104 (by decide) rfl (L' := [_, _]) rfl ?_
                refine s_iload_n dX9_isKeyword_105 rfl ?_
                refine s_if_ne (tgt := 217) dX9_isKeyword_106 (by decide) (by first | exact hG7.2 _ _ | exact hG.2 _ _ | exact b01_in _ | assumption | exact ⟨by omega, by omega⟩) (fun c14 => ?_) (fun c14 => ?_)
                · refine s_iconst dX9_isKeyword_217 ?_
                  refine s_goto (tgt := 222) dX9_isKeyword_218 (by decide) ?_
                  exact s_zreturn dX9_isKeyword_222 rfl (Or.inr rfl) (q_val (b01_t (c := ¬ wi_ T (nb_ T n a) (wl__ T n a) = 23) (kw_t (j := 6) (by decide) c13)) (k _ S e16))
                · exact absurd (show (1 : Int) = 0 from c14) (by decide)
              · have c13 := b01_0.mp c13
                refine s_aload_n dX9_isKeyword_63 rfl ?_
                refine s_ldcS (j := 7) (z := 1000 + ((24 + 7 : Nat) : Int)) dX9_isKeyword_64 (by decide) rfl rfl (by decide) ?_
                refine s_callV (d' := d - 1) (bc' := 0) (bs' := 0) (as := [_]) dX9_isKeyword_66 vf_X9_130 (dd_ (by omega) (by decide)) ⟨Nat.zero_le _, Nat.zero_le _⟩ rfl rfl (Nat.le_of_ble_eq_true rfl) kl_7 rfl io_196 ?_
                refine k_isWord (j := 24 + 7) (by decide) (by omega) S (fun hhG8 ShG8 ehG8 => ?_)
                have S := ShG8
                have e16 := ehG8
                have hG8 := ShG8.1.1
                refine s_if_ne (tgt := 99) dX9_isKeyword_69 (by decide) (by first | exact hG8.2 _ _ | exact hG.2 _ _ | exact b01_in _ | assumption | exact ⟨by omega, by omega⟩) (fun c15 => ?_) (fun c15 => ?_)
                · have c15 := b01_n.mp c15
                  refine s_iconst dX9_isKeyword_99 ?_
                  refine s_goto (tgt := 104) dX9_isKeyword_100 (by decide) ?_
                  refine s_istore_n dX9_isKeyword_104 (by decide) rfl (L' := [_, _]) rfl ?_
                  refine s_iload_n dX9_isKeyword_105 rfl ?_
                  refine s_if_ne (tgt := 217) dX9_isKeyword_106 (by decide) (by first | exact hG8.2 _ _ | exact hG.2 _ _ | exact b01_in _ | assumption | exact ⟨by omega, by omega⟩) (fun c16 => ?_) (fun c16 => ?_)
                  · refine s_iconst dX9_isKeyword_217 ?_
                    refine s_goto (tgt := 222) dX9_isKeyword_218 (by decide) ?_
                    exact s_zreturn dX9_isKeyword_222 rfl (Or.inr rfl) (q_val (b01_t (c := ¬ wi_ T (nb_ T n a) (wl__ T n a) = 23) (kw_t (j := 7) (by decide) c15)) (k _ S e16))
                  · exact absurd (show (1 : Int) = 0 from c16) (by decide)
                · have c15 := b01_0.mp c15
                  refine s_aload_n dX9_isKeyword_72 rfl ?_
                  refine s_ldcS (j := 8) (z := 1000 + ((24 + 8 : Nat) : Int)) dX9_isKeyword_73 (by decide) rfl rfl (by decide) ?_
                  refine s_callV (d' := d - 1) (bc' := 0) (bs' := 0) (as := [_]) dX9_isKeyword_75 vf_X9_130 (dd_ (by omega) (by decide)) ⟨Nat.zero_le _, Nat.zero_le _⟩ rfl rfl (Nat.le_of_ble_eq_true rfl) kl_7 rfl io_196 ?_
                  refine k_isWord (j := 24 + 8) (by decide) (by omega) S (fun hhG9 ShG9 ehG9 => ?_)
                  have S := ShG9
                  have e16 := ehG9
                  have hG9 := ShG9.1.1
                  refine s_if_ne (tgt := 99) dX9_isKeyword_78 (by decide) (by first | exact hG9.2 _ _ | exact hG.2 _ _ | exact b01_in _ | assumption | exact ⟨by omega, by omega⟩) (fun c17 => ?_) (fun c17 => ?_)
                  · have c17 := b01_n.mp c17
                    refine s_iconst dX9_isKeyword_99 ?_
                    refine s_goto (tgt := 104) dX9_isKeyword_100 (by decide) ?_
                    refine s_istore_n dX9_isKeyword_104 (by decide) rfl (L' := [_, _]) rfl ?_
                    refine s_iload_n dX9_isKeyword_105 rfl ?_
                    refine s_if_ne (tgt := 217) dX9_isKeyword_106 (by decide) (by first | exact hG9.2 _ _ | exact hG.2 _ _ | exact b01_in _ | assumption | exact ⟨by omega, by omega⟩) (fun c18 => ?_) (fun c18 => ?_)
                    · refine s_iconst dX9_isKeyword_217 ?_
                      refine s_goto (tgt := 222) dX9_isKeyword_218 (by decide) ?_
                      exact s_zreturn dX9_isKeyword_222 rfl (Or.inr rfl) (q_val (b01_t (c := ¬ wi_ T (nb_ T n a) (wl__ T n a) = 23) (kw_t (j := 8) (by decide) c17)) (k _ S e16))
                    · exact absurd (show (1 : Int) = 0 from c18) (by decide)
                  · have c17 := b01_0.mp c17
                    refine s_aload_n dX9_isKeyword_81 rfl ?_
                    refine s_ldcS (j := 9) (z := 1000 + ((24 + 9 : Nat) : Int)) dX9_isKeyword_82 (by decide) rfl rfl (by decide) ?_
                    refine s_callV (d' := d - 1) (bc' := 0) (bs' := 0) (as := [_]) dX9_isKeyword_84 vf_X9_130 (dd_ (by omega) (by decide)) ⟨Nat.zero_le _, Nat.zero_le _⟩ rfl rfl (Nat.le_of_ble_eq_true rfl) kl_7 rfl io_196 ?_
                    refine k_isWord (j := 24 + 9) (by decide) (by omega) S (fun hhG10 ShG10 ehG10 => ?_)
                    have S := ShG10
                    have e16 := ehG10
                    have hG10 := ShG10.1.1
                    refine s_if_ne (tgt := 99) dX9_isKeyword_87 (by decide) (by first | exact hG10.2 _ _ | exact hG.2 _ _ | exact b01_in _ | assumption | exact ⟨by omega, by omega⟩) (fun c19 => ?_) (fun c19 => ?_)
                    · have c19 := b01_n.mp c19
                      refine s_iconst dX9_isKeyword_99 ?_
                      refine s_goto (tgt := 104) dX9_isKeyword_100 (by decide) ?_
                      refine s_istore_n dX9_isKeyword_104 (by decide) rfl (L' := [_, _]) rfl ?_
                      refine s_iload_n dX9_isKeyword_105 rfl ?_
                      refine s_if_ne (tgt := 217) dX9_isKeyword_106 (by decide) (by first | exact hG10.2 _ _ | exact hG.2 _ _ | exact b01_in _ | assumption | exact ⟨by omega, by omega⟩) (fun c20 => ?_) (fun c20 => ?_)
                      · refine s_iconst dX9_isKeyword_217 ?_
                        refine s_goto (tgt := 222) dX9_isKeyword_218 (by decide) ?_
                        exact s_zreturn dX9_isKeyword_222 rfl (Or.inr rfl) (q_val (b01_t (c := ¬ wi_ T (nb_ T n a) (wl__ T n a) = 23) (kw_t (j := 9) (by decide) c19)) (k _ S e16))
                      · exact absurd (show (1 : Int) = 0 from c20) (by decide)
                    · have c19 := b01_0.mp c19
                      refine s_aload_n dX9_isKeyword_90 rfl ?_
                      refine s_ldcS (j := 10) (z := 1000 + ((24 + 10 : Nat) : Int)) dX9_isKeyword_91 (by decide) rfl rfl (by decide) ?_
                      refine s_callV (d' := d - 1) (bc' := 0) (bs' := 0) (as := [_]) dX9_isKeyword_93 vf_X9_130 (dd_ (by omega) (by decide)) ⟨Nat.zero_le _, Nat.zero_le _⟩ rfl rfl (Nat.le_of_ble_eq_true rfl) kl_7 rfl io_196 ?_
                      refine k_isWord (j := 24 + 10) (by decide) (by omega) S (fun hhG11 ShG11 ehG11 => ?_)
                      have S := ShG11
                      have e16 := ehG11
                      have hG11 := ShG11.1.1
                      refine s_if_eq (tgt := 103) dX9_isKeyword_96 (by decide) (by first | exact hG11.2 _ _ | exact hG.2 _ _ | exact b01_in _ | assumption | exact ⟨by omega, by omega⟩) (fun c21 => ?_) (fun c21 => ?_)
                      · have c21 := b01_0.mp c21
                        refine s_iconst dX9_isKeyword_103 ?_
                        refine s_istore_n dX9_isKeyword_104 (by decide) rfl (L' := [_, _]) rfl ?_
                        refine s_iload_n dX9_isKeyword_105 rfl ?_
                        refine s_if_ne (tgt := 217) dX9_isKeyword_106 (by decide) (by first | exact hG11.2 _ _ | exact hG.2 _ _ | exact b01_in _ | assumption | exact ⟨by omega, by omega⟩) (fun c22 => ?_) (fun c22 => ?_)
                        · exact absurd rfl c22
                        · refine s_aload_n dX9_isKeyword_109 rfl ?_
                          refine s_ldcS (j := 11) (z := 1000 + ((24 + 11 : Nat) : Int)) dX9_isKeyword_110 (by decide) rfl rfl (by decide) ?_
                          refine s_callV (d' := d - 1) (bc' := 0) (bs' := 0) (as := [_]) dX9_isKeyword_112 vf_X9_130 (dd_ (by omega) (by decide)) ⟨Nat.zero_le _, Nat.zero_le _⟩ rfl rfl (Nat.le_of_ble_eq_true rfl) kl_7 rfl io_196 ?_
                          refine k_isWord (j := 24 + 11) (by decide) (by omega) S (fun hhG12 ShG12 ehG12 => ?_)
                          have S := ShG12
                          have e16 := ehG12
                          have hG12 := ShG12.1.1
                          refine s_if_ne (tgt := 217) dX9_isKeyword_115 (by decide) (by first | exact hG12.2 _ _ | exact hG.2 _ _ | exact b01_in _ | assumption | exact ⟨by omega, by omega⟩) (fun c23 => ?_) (fun c23 => ?_)
                          · have c23 := b01_n.mp c23
                            refine s_iconst dX9_isKeyword_217 ?_
                            refine s_goto (tgt := 222) dX9_isKeyword_218 (by decide) ?_
                            exact s_zreturn dX9_isKeyword_222 rfl (Or.inr rfl) (q_val (b01_t (c := ¬ wi_ T (nb_ T n a) (wl__ T n a) = 23) (kw_t (j := 11) (by decide) c23)) (k _ S e16))
                          · have c23 := b01_0.mp c23
                            refine s_aload_n dX9_isKeyword_118 rfl ?_
                            refine s_ldcS (j := 12) (z := 1000 + ((24 + 12 : Nat) : Int)) dX9_isKeyword_119 (by decide) rfl rfl (by decide) ?_
                            refine s_callV (d' := d - 1) (bc' := 0) (bs' := 0) (as := [_]) dX9_isKeyword_121 vf_X9_130 (dd_ (by omega) (by decide)) ⟨Nat.zero_le _, Nat.zero_le _⟩ rfl rfl (Nat.le_of_ble_eq_true rfl) kl_7 rfl io_196 ?_
                            refine k_isWord (j := 24 + 12) (by decide) (by omega) S (fun hhG13 ShG13 ehG13 => ?_)
                            have S := ShG13
                            have e16 := ehG13
                            have hG13 := ShG13.1.1
                            refine s_if_ne (tgt := 217) dX9_isKeyword_124 (by decide) (by first | exact hG13.2 _ _ | exact hG.2 _ _ | exact b01_in _ | assumption | exact ⟨by omega, by omega⟩) (fun c24 => ?_) (fun c24 => ?_)
                            · have c24 := b01_n.mp c24
                              refine s_iconst dX9_isKeyword_217 ?_
                              refine s_goto (tgt := 222) dX9_isKeyword_218 (by decide) ?_
                              exact s_zreturn dX9_isKeyword_222 rfl (Or.inr rfl) (q_val (b01_t (c := ¬ wi_ T (nb_ T n a) (wl__ T n a) = 23) (kw_t (j := 12) (by decide) c24)) (k _ S e16))
                            · have c24 := b01_0.mp c24
                              refine s_aload_n dX9_isKeyword_127 rfl ?_
                              refine s_ldcS (j := 13) (z := 1000 + ((24 + 13 : Nat) : Int)) dX9_isKeyword_128 (by decide) rfl rfl (by decide) ?_
                              refine s_callV (d' := d - 1) (bc' := 0) (bs' := 0) (as := [_]) dX9_isKeyword_130 vf_X9_130 (dd_ (by omega) (by decide)) ⟨Nat.zero_le _, Nat.zero_le _⟩ rfl rfl (Nat.le_of_ble_eq_true rfl) kl_7 rfl io_196 ?_
                              refine k_isWord (j := 24 + 13) (by decide) (by omega) S (fun hhG14 ShG14 ehG14 => ?_)
                              have S := ShG14
                              have e16 := ehG14
                              have hG14 := ShG14.1.1
                              refine s_if_ne (tgt := 217) dX9_isKeyword_133 (by decide) (by first | exact hG14.2 _ _ | exact hG.2 _ _ | exact b01_in _ | assumption | exact ⟨by omega, by omega⟩) (fun c25 => ?_) (fun c25 => ?_)
                              · have c25 := b01_n.mp c25
                                refine s_iconst dX9_isKeyword_217 ?_
                                refine s_goto (tgt := 222) dX9_isKeyword_218 (by decide) ?_
                                exact s_zreturn dX9_isKeyword_222 rfl (Or.inr rfl) (q_val (b01_t (c := ¬ wi_ T (nb_ T n a) (wl__ T n a) = 23) (kw_t (j := 13) (by decide) c25)) (k _ S e16))
                              · have c25 := b01_0.mp c25
                                refine s_aload_n dX9_isKeyword_136 rfl ?_
                                refine s_ldcS (j := 14) (z := 1000 + ((24 + 14 : Nat) : Int)) dX9_isKeyword_137 (by decide) rfl rfl (by decide) ?_
                                refine s_callV (d' := d - 1) (bc' := 0) (bs' := 0) (as := [_]) dX9_isKeyword_139 vf_X9_130 (dd_ (by omega) (by decide)) ⟨Nat.zero_le _, Nat.zero_le _⟩ rfl rfl (Nat.le_of_ble_eq_true rfl) kl_7 rfl io_196 ?_
                                refine k_isWord (j := 24 + 14) (by decide) (by omega) S (fun hhG15 ShG15 ehG15 => ?_)
                                have S := ShG15
                                have e16 := ehG15
                                have hG15 := ShG15.1.1
                                refine s_if_ne (tgt := 217) dX9_isKeyword_142 (by decide) (by first | exact hG15.2 _ _ | exact hG.2 _ _ | exact b01_in _ | assumption | exact ⟨by omega, by omega⟩) (fun c26 => ?_) (fun c26 => ?_)
                                · have c26 := b01_n.mp c26
                                  refine s_iconst dX9_isKeyword_217 ?_
                                  refine s_goto (tgt := 222) dX9_isKeyword_218 (by decide) ?_
                                  exact s_zreturn dX9_isKeyword_222 rfl (Or.inr rfl) (q_val (b01_t (c := ¬ wi_ T (nb_ T n a) (wl__ T n a) = 23) (kw_t (j := 14) (by decide) c26)) (k _ S e16))
                                · have c26 := b01_0.mp c26
                                  refine s_aload_n dX9_isKeyword_145 rfl ?_
                                  refine s_ldcS (j := 15) (z := 1000 + ((24 + 15 : Nat) : Int)) dX9_isKeyword_146 (by decide) rfl rfl (by decide) ?_
                                  refine s_callV (d' := d - 1) (bc' := 0) (bs' := 0) (as := [_]) dX9_isKeyword_148 vf_X9_130 (dd_ (by omega) (by decide)) ⟨Nat.zero_le _, Nat.zero_le _⟩ rfl rfl (Nat.le_of_ble_eq_true rfl) kl_7 rfl io_196 ?_
                                  refine k_isWord (j := 24 + 15) (by decide) (by omega) S (fun hhG16 ShG16 ehG16 => ?_)
                                  have S := ShG16
                                  have e16 := ehG16
                                  have hG16 := ShG16.1.1
                                  refine s_if_ne (tgt := 217) dX9_isKeyword_151 (by decide) (by first | exact hG16.2 _ _ | exact hG.2 _ _ | exact b01_in _ | assumption | exact ⟨by omega, by omega⟩) (fun c27 => ?_) (fun c27 => ?_)
                                  · have c27 := b01_n.mp c27
                                    refine s_iconst dX9_isKeyword_217 ?_
                                    refine s_goto (tgt := 222) dX9_isKeyword_218 (by decide) ?_
                                    exact s_zreturn dX9_isKeyword_222 rfl (Or.inr rfl) (q_val (b01_t (c := ¬ wi_ T (nb_ T n a) (wl__ T n a) = 23) (kw_t (j := 15) (by decide) c27)) (k _ S e16))
                                  · have c27 := b01_0.mp c27
                                    refine s_aload_n dX9_isKeyword_154 rfl ?_
                                    refine s_ldcS (j := 16) (z := 1000 + ((24 + 16 : Nat) : Int)) dX9_isKeyword_155 (by decide) rfl rfl (by decide) ?_
                                    refine s_callV (d' := d - 1) (bc' := 0) (bs' := 0) (as := [_]) dX9_isKeyword_157 vf_X9_130 (dd_ (by omega) (by decide)) ⟨Nat.zero_le _, Nat.zero_le _⟩ rfl rfl (Nat.le_of_ble_eq_true rfl) kl_7 rfl io_196 ?_
                                    refine k_isWord (j := 24 + 16) (by decide) (by omega) S (fun hhG17 ShG17 ehG17 => ?_)
                                    have S := ShG17
                                    have e16 := ehG17
                                    have hG17 := ShG17.1.1
                                    refine s_if_ne (tgt := 217) dX9_isKeyword_160 (by decide) (by first | exact hG17.2 _ _ | exact hG.2 _ _ | exact b01_in _ | assumption | exact ⟨by omega, by omega⟩) (fun c28 => ?_) (fun c28 => ?_)
                                    · have c28 := b01_n.mp c28
                                      refine s_iconst dX9_isKeyword_217 ?_
                                      refine s_goto (tgt := 222) dX9_isKeyword_218 (by decide) ?_
                                      exact s_zreturn dX9_isKeyword_222 rfl (Or.inr rfl) (q_val (b01_t (c := ¬ wi_ T (nb_ T n a) (wl__ T n a) = 23) (kw_t (j := 16) (by decide) c28)) (k _ S e16))
                                    · have c28 := b01_0.mp c28
                                      refine s_aload_n dX9_isKeyword_163 rfl ?_
                                      refine s_ldcS (j := 17) (z := 1000 + ((24 + 17 : Nat) : Int)) dX9_isKeyword_164 (by decide) rfl rfl (by decide) ?_
                                      refine s_callV (d' := d - 1) (bc' := 0) (bs' := 0) (as := [_]) dX9_isKeyword_166 vf_X9_130 (dd_ (by omega) (by decide)) ⟨Nat.zero_le _, Nat.zero_le _⟩ rfl rfl (Nat.le_of_ble_eq_true rfl) kl_7 rfl io_196 ?_
                                      refine k_isWord (j := 24 + 17) (by decide) (by omega) S (fun hhG18 ShG18 ehG18 => ?_)
                                      have S := ShG18
                                      have e16 := ehG18
                                      have hG18 := ShG18.1.1
                                      refine s_if_ne (tgt := 217) dX9_isKeyword_169 (by decide) (by first | exact hG18.2 _ _ | exact hG.2 _ _ | exact b01_in _ | assumption | exact ⟨by omega, by omega⟩) (fun c29 => ?_) (fun c29 => ?_)
                                      · have c29 := b01_n.mp c29
                                        refine s_iconst dX9_isKeyword_217 ?_
                                        refine s_goto (tgt := 222) dX9_isKeyword_218 (by decide) ?_
                                        exact s_zreturn dX9_isKeyword_222 rfl (Or.inr rfl) (q_val (b01_t (c := ¬ wi_ T (nb_ T n a) (wl__ T n a) = 23) (kw_t (j := 17) (by decide) c29)) (k _ S e16))
                                      · have c29 := b01_0.mp c29
                                        refine s_aload_n dX9_isKeyword_172 rfl ?_
                                        refine s_ldcS (j := 18) (z := 1000 + ((24 + 18 : Nat) : Int)) dX9_isKeyword_173 (by decide) rfl rfl (by decide) ?_
                                        refine s_callV (d' := d - 1) (bc' := 0) (bs' := 0) (as := [_]) dX9_isKeyword_175 vf_X9_130 (dd_ (by omega) (by decide)) ⟨Nat.zero_le _, Nat.zero_le _⟩ rfl rfl (Nat.le_of_ble_eq_true rfl) kl_7 rfl io_196 ?_
                                        refine k_isWord (j := 24 + 18) (by decide) (by omega) S (fun hhG19 ShG19 ehG19 => ?_)
                                        have S := ShG19
                                        have e16 := ehG19
                                        have hG19 := ShG19.1.1
                                        refine s_if_ne (tgt := 217) dX9_isKeyword_178 (by decide) (by first | exact hG19.2 _ _ | exact hG.2 _ _ | exact b01_in _ | assumption | exact ⟨by omega, by omega⟩) (fun c30 => ?_) (fun c30 => ?_)
                                        · have c30 := b01_n.mp c30
                                          refine s_iconst dX9_isKeyword_217 ?_
                                          refine s_goto (tgt := 222) dX9_isKeyword_218 (by decide) ?_
                                          exact s_zreturn dX9_isKeyword_222 rfl (Or.inr rfl) (q_val (b01_t (c := ¬ wi_ T (nb_ T n a) (wl__ T n a) = 23) (kw_t (j := 18) (by decide) c30)) (k _ S e16))
                                        · have c30 := b01_0.mp c30
                                          refine s_aload_n dX9_isKeyword_181 rfl ?_
                                          refine s_ldcS (j := 19) (z := 1000 + ((24 + 19 : Nat) : Int)) dX9_isKeyword_182 (by decide) rfl rfl (by decide) ?_
                                          refine s_callV (d' := d - 1) (bc' := 0) (bs' := 0) (as := [_]) dX9_isKeyword_184 vf_X9_130 (dd_ (by omega) (by decide)) ⟨Nat.zero_le _, Nat.zero_le _⟩ rfl rfl (Nat.le_of_ble_eq_true rfl) kl_7 rfl io_196 ?_
                                          refine k_isWord (j := 24 + 19) (by decide) (by omega) S (fun hhG20 ShG20 ehG20 => ?_)
                                          have S := ShG20
                                          have e16 := ehG20
                                          have hG20 := ShG20.1.1
                                          refine s_if_ne (tgt := 217) dX9_isKeyword_187 (by decide) (by first | exact hG20.2 _ _ | exact hG.2 _ _ | exact b01_in _ | assumption | exact ⟨by omega, by omega⟩) (fun c31 => ?_) (fun c31 => ?_)
                                          · have c31 := b01_n.mp c31
                                            refine s_iconst dX9_isKeyword_217 ?_
                                            refine s_goto (tgt := 222) dX9_isKeyword_218 (by decide) ?_
                                            exact s_zreturn dX9_isKeyword_222 rfl (Or.inr rfl) (q_val (b01_t (c := ¬ wi_ T (nb_ T n a) (wl__ T n a) = 23) (kw_t (j := 19) (by decide) c31)) (k _ S e16))
                                          · have c31 := b01_0.mp c31
                                            refine s_aload_n dX9_isKeyword_190 rfl ?_
                                            refine s_ldcS (j := 20) (z := 1000 + ((24 + 20 : Nat) : Int)) dX9_isKeyword_191 (by decide) rfl rfl (by decide) ?_
                                            refine s_callV (d' := d - 1) (bc' := 0) (bs' := 0) (as := [_]) dX9_isKeyword_193 vf_X9_130 (dd_ (by omega) (by decide)) ⟨Nat.zero_le _, Nat.zero_le _⟩ rfl rfl (Nat.le_of_ble_eq_true rfl) kl_7 rfl io_196 ?_
                                            refine k_isWord (j := 24 + 20) (by decide) (by omega) S (fun hhG21 ShG21 ehG21 => ?_)
                                            have S := ShG21
                                            have e16 := ehG21
                                            have hG21 := ShG21.1.1
                                            refine s_if_ne (tgt := 217) dX9_isKeyword_196 (by decide) (by first | exact hG21.2 _ _ | exact hG.2 _ _ | exact b01_in _ | assumption | exact ⟨by omega, by omega⟩) (fun c32 => ?_) (fun c32 => ?_)
                                            · have c32 := b01_n.mp c32
                                              refine s_iconst dX9_isKeyword_217 ?_
                                              refine s_goto (tgt := 222) dX9_isKeyword_218 (by decide) ?_
                                              exact s_zreturn dX9_isKeyword_222 rfl (Or.inr rfl) (q_val (b01_t (c := ¬ wi_ T (nb_ T n a) (wl__ T n a) = 23) (kw_t (j := 20) (by decide) c32)) (k _ S e16))
                                            · have c32 := b01_0.mp c32
                                              refine s_aload_n dX9_isKeyword_199 rfl ?_
                                              refine s_ldcS (j := 21) (z := 1000 + ((24 + 21 : Nat) : Int)) dX9_isKeyword_200 (by decide) rfl rfl (by decide) ?_
                                              refine s_callV (d' := d - 1) (bc' := 0) (bs' := 0) (as := [_]) dX9_isKeyword_202 vf_X9_130 (dd_ (by omega) (by decide)) ⟨Nat.zero_le _, Nat.zero_le _⟩ rfl rfl (Nat.le_of_ble_eq_true rfl) kl_7 rfl io_196 ?_
                                              refine k_isWord (j := 24 + 21) (by decide) (by omega) S (fun hhG22 ShG22 ehG22 => ?_)
                                              have S := ShG22
                                              have e16 := ehG22
                                              have hG22 := ShG22.1.1
                                              refine s_if_ne (tgt := 217) dX9_isKeyword_205 (by decide) (by first | exact hG22.2 _ _ | exact hG.2 _ _ | exact b01_in _ | assumption | exact ⟨by omega, by omega⟩) (fun c33 => ?_) (fun c33 => ?_)
                                              · have c33 := b01_n.mp c33
                                                refine s_iconst dX9_isKeyword_217 ?_
                                                refine s_goto (tgt := 222) dX9_isKeyword_218 (by decide) ?_
                                                exact s_zreturn dX9_isKeyword_222 rfl (Or.inr rfl) (q_val (b01_t (c := ¬ wi_ T (nb_ T n a) (wl__ T n a) = 23) (kw_t (j := 21) (by decide) c33)) (k _ S e16))
                                              · have c33 := b01_0.mp c33
                                                refine s_aload_n dX9_isKeyword_208 rfl ?_
                                                refine s_ldcS (j := 22) (z := 1000 + ((24 + 22 : Nat) : Int)) dX9_isKeyword_209 (by decide) rfl rfl (by decide) ?_
                                                refine s_callV (d' := d - 1) (bc' := 0) (bs' := 0) (as := [_]) dX9_isKeyword_211 vf_X9_130 (dd_ (by omega) (by decide)) ⟨Nat.zero_le _, Nat.zero_le _⟩ rfl rfl (Nat.le_of_ble_eq_true rfl) kl_7 rfl io_196 ?_
                                                refine k_isWord (j := 24 + 22) (by decide) (by omega) S (fun hhG23 ShG23 ehG23 => ?_)
                                                have S := ShG23
                                                have e16 := ehG23
                                                have hG23 := ShG23.1.1
                                                refine s_if_eq (tgt := 221) dX9_isKeyword_214 (by decide) (by first | exact hG23.2 _ _ | exact hG.2 _ _ | exact b01_in _ | assumption | exact ⟨by omega, by omega⟩) (fun c34 => ?_) (fun c34 => ?_)
                                                · have c34 := b01_0.mp c34
                                                  refine s_iconst dX9_isKeyword_221 ?_
                                                  have wz : wi_ T (nb_ T n a) (wl__ T n a) = 23 := kw_23 (fun j hj => by
                                                    rcases (by omega : j = 0 ∨ j = 1 ∨ j = 2 ∨ j = 3 ∨ j = 4 ∨ j = 5 ∨ j = 6 ∨ j = 7 ∨ j = 8 ∨ j = 9 ∨ j = 10 ∨ j = 11 ∨ j = 12 ∨ j = 13 ∨ j = 14 ∨ j = 15 ∨ j = 16 ∨ j = 17 ∨ j = 18 ∨ j = 19 ∨ j = 20 ∨ j = 21 ∨ j = 22) with e | e | e | e | e | e | e | e | e | e | e | e | e | e | e | e | e | e | e | e | e | e | e
                                                    · rw [e]; exact fun q => c1 ((iw_24 (j := 0) (by decide)).mpr q)
                                                    · rw [e]; exact fun q => c3 ((iw_24 (j := 1) (by decide)).mpr q)
                                                    · rw [e]; exact fun q => c5 ((iw_24 (j := 2) (by decide)).mpr q)
                                                    · rw [e]; exact fun q => c7 ((iw_24 (j := 3) (by decide)).mpr q)
                                                    · rw [e]; exact fun q => c9 ((iw_24 (j := 4) (by decide)).mpr q)
                                                    · rw [e]; exact fun q => c11 ((iw_24 (j := 5) (by decide)).mpr q)
                                                    · rw [e]; exact fun q => c13 ((iw_24 (j := 6) (by decide)).mpr q)
                                                    · rw [e]; exact fun q => c15 ((iw_24 (j := 7) (by decide)).mpr q)
                                                    · rw [e]; exact fun q => c17 ((iw_24 (j := 8) (by decide)).mpr q)
                                                    · rw [e]; exact fun q => c19 ((iw_24 (j := 9) (by decide)).mpr q)
                                                    · rw [e]; exact fun q => c21 ((iw_24 (j := 10) (by decide)).mpr q)
                                                    · rw [e]; exact fun q => c23 ((iw_24 (j := 11) (by decide)).mpr q)
                                                    · rw [e]; exact fun q => c24 ((iw_24 (j := 12) (by decide)).mpr q)
                                                    · rw [e]; exact fun q => c25 ((iw_24 (j := 13) (by decide)).mpr q)
                                                    · rw [e]; exact fun q => c26 ((iw_24 (j := 14) (by decide)).mpr q)
                                                    · rw [e]; exact fun q => c27 ((iw_24 (j := 15) (by decide)).mpr q)
                                                    · rw [e]; exact fun q => c28 ((iw_24 (j := 16) (by decide)).mpr q)
                                                    · rw [e]; exact fun q => c29 ((iw_24 (j := 17) (by decide)).mpr q)
                                                    · rw [e]; exact fun q => c30 ((iw_24 (j := 18) (by decide)).mpr q)
                                                    · rw [e]; exact fun q => c31 ((iw_24 (j := 19) (by decide)).mpr q)
                                                    · rw [e]; exact fun q => c32 ((iw_24 (j := 20) (by decide)).mpr q)
                                                    · rw [e]; exact fun q => c33 ((iw_24 (j := 21) (by decide)).mpr q)
                                                    · rw [e]; exact fun q => c34 ((iw_24 (j := 22) (by decide)).mpr q))
                                                  exact s_zreturn dX9_isKeyword_222 rfl (Or.inl rfl) (q_val (b01_f (c := ¬ wi_ T (nb_ T n a) (wl__ T n a) = 23) (fun q => q wz)) (k _ S e16))
                                                · have c34 := b01_n.mp c34
                                                  refine s_iconst dX9_isKeyword_217 ?_
                                                  refine s_goto (tgt := 222) dX9_isKeyword_218 (by decide) ?_
                                                  exact s_zreturn dX9_isKeyword_222 rfl (Or.inr rfl) (q_val (b01_t (c := ¬ wi_ T (nb_ T n a) (wl__ T n a) = 23) (kw_t (j := 22) (by decide) c34)) (k _ S e16))
                      · have c21 := b01_n.mp c21
                        refine s_iconst dX9_isKeyword_99 ?_
                        refine s_goto (tgt := 104) dX9_isKeyword_100 (by decide) ?_
                        refine s_istore_n dX9_isKeyword_104 (by decide) rfl (L' := [_, _]) rfl ?_
                        refine s_iload_n dX9_isKeyword_105 rfl ?_
                        refine s_if_ne (tgt := 217) dX9_isKeyword_106 (by decide) (by first | exact hG11.2 _ _ | exact hG.2 _ _ | exact b01_in _ | assumption | exact ⟨by omega, by omega⟩) (fun c35 => ?_) (fun c35 => ?_)
                        · refine s_iconst dX9_isKeyword_217 ?_
                          refine s_goto (tgt := 222) dX9_isKeyword_218 (by decide) ?_
                          exact s_zreturn dX9_isKeyword_222 rfl (Or.inr rfl) (q_val (b01_t (c := ¬ wi_ T (nb_ T n a) (wl__ T n a) = 23) (kw_t (j := 10) (by decide) c21)) (k _ S e16))
                        · exact absurd (show (1 : Int) = 0 from c35) (by decide)
theorem ec_bd5 {f : Int → Int} : ∀ n : Nat, lq_ f n → 0 ≤ ec_ f n ∧ (n ≤ 5 → ec_ f n < 33554432) := fun n H => by
  refine ⟨(ec_nn n H).1, fun h5 => ?_⟩
  have st : ∀ (m : Nat) (B : Int), (∀ j : Int, 0 ≤ j → j < (m + 1 : Nat) → 97 ≤ f j ∧ f j ≤ 122) → ec_ f m ≤ B → ec_ f (m + 1) ≤ B * 32 + 26 := fun m B g hb => by
    have q := g m (by omega) (by omega)
    rw [ec_]
    omega
  have e0 : ec_ f 0 ≤ 0 := Int.le_refl _
  rcases (by omega : n = 0 ∨ n = 1 ∨ n = 2 ∨ n = 3 ∨ n = 4 ∨ n = 5) with e | e | e | e | e | e <;> subst e
  · omega
  · have e1 : ec_ f 1 ≤ 26 := st 0 0 (fun j a b => H j a (by omega)) e0
    omega
  · have e1 : ec_ f 1 ≤ 26 := st 0 0 (fun j a b => H j a (by omega)) e0
    have e2 : ec_ f 2 ≤ 858 := st 1 26 (fun j a b => H j a (by omega)) e1
    omega
  · have e1 : ec_ f 1 ≤ 26 := st 0 0 (fun j a b => H j a (by omega)) e0
    have e2 : ec_ f 2 ≤ 858 := st 1 26 (fun j a b => H j a (by omega)) e1
    have e3 : ec_ f 3 ≤ 27482 := st 2 858 (fun j a b => H j a (by omega)) e2
    omega
  · have e1 : ec_ f 1 ≤ 26 := st 0 0 (fun j a b => H j a (by omega)) e0
    have e2 : ec_ f 2 ≤ 858 := st 1 26 (fun j a b => H j a (by omega)) e1
    have e3 : ec_ f 3 ≤ 27482 := st 2 858 (fun j a b => H j a (by omega)) e2
    have e4 : ec_ f 4 ≤ 879450 := st 3 27482 (fun j a b => H j a (by omega)) e3
    omega
  · have e1 : ec_ f 1 ≤ 26 := st 0 0 (fun j a b => H j a (by omega)) e0
    have e2 : ec_ f 2 ≤ 858 := st 1 26 (fun j a b => H j a (by omega)) e1
    have e3 : ec_ f 3 ≤ 27482 := st 2 858 (fun j a b => H j a (by omega)) e2
    have e4 : ec_ f 4 ≤ 879450 := st 3 27482 (fun j a b => H j a (by omega)) e3
    have e5 : ec_ f 5 ≤ 28142426 := st 4 879450 (fun j a b => H j a (by omega)) e4
    omega
set_option maxRecDepth 100000 in
set_option maxHeartbeats 4000000 in
theorem lp_X9_nameHere  (hR : RN_ n T h) (e16 : h 196 16 = nb_ T n a) (w6 : wl__ T n a ≤ 6) (w1 : nb_ T n a + wl__ T n a ≤ n) (k : Q.1 (some (0, ec_ (fun k => T (nb_ T n a + k)) (wl__ T n a).toNat)) nN h) : ∀ (m : Nat) (i v : Int), (0 ≤ i) → (i + m = wl__ T n a) → (v = ec_ (fun k => T (nb_ T n a + k)) i.toNat) → S_ MX9_nameHere d bc bs Q 37 [(2, 196), (0, wl__ T n a), (0, v), (0, i)] [] nN h := by
  intro m
  induction m with
  | zero =>
    intro i v i0 im hv
    have hG := hR.1
    have n4 := hR.2.2.2.1
    have nb0 := hR.2.2.1
    have te : i < wl__ T n a → h (196 + 9) (h 196 16 + i) = T (nb_ T n a + i) := fun c => by rw [e16]; exact hR.2.2.2.2 _ (by omega) (by omega)
    have hl : i < wl__ T n a → 97 ≤ T (nb_ T n a + i) ∧ T (nb_ T n a + i) ≤ 122 := fun c => we_lq i i0 (by omega)
    have hw : 0 ≤ v ∧ (i < wl__ T n a → v < 67108864) := by
      have q := ec_bd5 (f := fun k => T (nb_ T n a + k)) i.toNat (fun j a b => we_lq j a (by omega))
      rw [← hv] at q
      refine ⟨q.1, fun c => ?_⟩
      have q2 := q.2 (by omega)
      omega
    refine s_iload_n dX9_nameHere_37 rfl ?_
    refine s_iload_n dX9_nameHere_38 rfl ?_
    refine s_icmp_ge (tgt := 67) dX9_nameHere_39 (by decide) (by first | exact hG.2 _ _ | exact b01_in _ | assumption | exact ⟨by omega, by omega⟩) (by first | exact hG.2 _ _ | exact b01_in _ | assumption | exact ⟨by omega, by omega⟩) (fun c1 => ?_) (fun c1 => ?_)
    · refine s_iload_n dX9_nameHere_67 rfl ?_
      exact s_ireturn dX9_nameHere_68 rfl (q_val (by rw [hv, show i = wl__ T n a by omega]) k)
    · exact absurd c1 (by omega)
  | succ m ih =>
    intro i v i0 im hv
    have hG := hR.1
    have n4 := hR.2.2.2.1
    have nb0 := hR.2.2.1
    have te : i < wl__ T n a → h (196 + 9) (h 196 16 + i) = T (nb_ T n a + i) := fun c => by rw [e16]; exact hR.2.2.2.2 _ (by omega) (by omega)
    have hl : i < wl__ T n a → 97 ≤ T (nb_ T n a + i) ∧ T (nb_ T n a + i) ≤ 122 := fun c => we_lq i i0 (by omega)
    have hw : 0 ≤ v ∧ (i < wl__ T n a → v < 67108864) := by
      have q := ec_bd5 (f := fun k => T (nb_ T n a + k)) i.toNat (fun j a b => we_lq j a (by omega))
      rw [← hv] at q
      refine ⟨q.1, fun c => ?_⟩
      have q2 := q.2 (by omega)
      omega
    refine s_iload_n dX9_nameHere_37 rfl ?_
    refine s_iload_n dX9_nameHere_38 rfl ?_
    refine s_icmp_ge (tgt := 67) dX9_nameHere_39 (by decide) (by first | exact hG.2 _ _ | exact b01_in _ | assumption | exact ⟨by omega, by omega⟩) (by first | exact hG.2 _ _ | exact b01_in _ | assumption | exact ⟨by omega, by omega⟩) (fun c1 => ?_) (fun c1 => ?_)
    · exact absurd c1 (by omega)
    · refine s_iload_n dX9_nameHere_42 rfl ?_
      refine s_iconst dX9_nameHere_43 ?_
      refine s_ishl dX9_nameHere_44 (by omega) (by omega) ?_
      refine s_aload_n dX9_nameHere_45 rfl ?_
      refine s_getr dX9_nameHere_46 fl_X9_35 kl_7 (by decide) rfl io_196 (z := 13) rfl (rf_7_13 hG.1 io_196) (rk_7_13 io_196).1 ?_
      refine s_aload_n dX9_nameHere_49 rfl ?_
      refine s_geti dX9_nameHere_50 fl_X9_104 kl_7 (by decide) rfl io_196 (z := 16) rfl ?_
      refine s_iload_n dX9_nameHere_53 rfl ?_
      refine s_iadd dX9_nameHere_54 ?_
      refine s_baload1 dX9_nameHere_55 (rk_7_13 io_196) (by omega) (by omega) ?_
      have hl := hl (by omega)
      have hw2 := hw.2 (by omega)
      rw [te (by omega)]
      refine s_bipush dX9_nameHere_56 (by decide) ?_
      refine s_isub dX9_nameHere_58 ?_
      refine s_ior dX9_nameHere_59 hw.1 hw2 (by omega) (by omega) ?_
      refine s_istore_n dX9_nameHere_60 (by decide) rfl (L' := [_, _, _, _]) rfl ?_
      refine s_iinc dX9_nameHere_61 rfl (by decide) rfl (L' := [_, _, _, _]) rfl ?_
      refine s_goto (tgt := 37) dX9_nameHere_64 (by decide) ?_
      refine ih (i + 1) _ (by omega) (by omega) ?_
      rw [show (i + 1).toNat = i.toNat + 1 by omega, ec_, ← hv, show ((i.toNat : Nat) : Int) = i by omega]
set_option maxRecDepth 100000 in
set_option maxHeartbeats 4000000 in
theorem c_X9_nameHere  (hd : 7 ≤ d) (S : OK9 n T h0 a h) (k : ∀ h1 : PH, OK9 n T h0 a h1 → h1 196 16 = nb_ T n a → Q.1 (some (0, nc_ T n a)) nN h1) : Cl_ yX9_nameHere MX9_nameHere d bc bs [(2, 196)] nN h Q := by
  refine s_enter pn_X9 rfl (Nat.le_of_ble_eq_true rfl) (L := [(2, _), (9, 0), (9, 0), (9, 0)]) rfl ?_
  have hG := S.1.1
  have ab := ok_0 S
  have nb0 := nb_0 S
  have ok := S.2.2.1
  have wle : wl__ T n a = wn_ T n a - nb_ T n a := rfl
  refine s_aload_n dX9_nameHere_0 rfl ?_
  refine s_callV (d' := d - 1) (bc' := 0) (bs' := 0) (as := []) dX9_nameHere_1 vf_X9_118 (dd_ (by omega) (by decide)) ⟨Nat.zero_le _, Nat.zero_le _⟩ rfl rfl (Nat.le_of_ble_eq_true rfl) kl_7 rfl io_196 ?_
  refine c_X9_wordLong (by omega) S.1 (fun h1 R1 f1 e1 => ?_)
  have hG1 := R1.1
  have S1 := ok_at S R1 f1 e1
  have hG := hG1
  have ok := S1.2.2.1
  rw [ok_wl S]
  rw [ok_nb S] at e1
  refine s_istore_n dX9_nameHere_4 (by decide) rfl (L' := [_, _, _, _]) rfl ?_
  refine s_aload_n dX9_nameHere_5 rfl ?_
  refine s_callV (d' := d - 1) (bc' := 0) (bs' := 0) (as := []) dX9_nameHere_6 vf_X9_114 (dd_ (by omega) (by decide)) ⟨Nat.zero_le _, Nat.zero_le _⟩ rfl rfl (Nat.le_of_ble_eq_true rfl) kl_7 rfl io_196 ?_
  refine c_X9_isWrong hG ?_
  refine s_if_ne (tgt := 31) dX9_nameHere_9 (by decide) (by first | exact hG1.2 _ _ | exact hG.2 _ _ | exact b01_in _ | assumption | exact ⟨by omega, by omega⟩) (fun c1 => ?_) (fun c1 => ?_)
  · exact absurd ok (b01_n.mp c1)
  · have c1 := b01_0.mp c1
    refine s_iload_n dX9_nameHere_12 rfl ?_
    refine s_i2l dX9_nameHere_13 (by first | exact hG1.2 _ _ | exact hG.2 _ _ | exact b01_in _ | assumption | exact ⟨by omega, by omega⟩) ?_
    refine s_lconstz (z := 1) dX9_nameHere_14 rfl ?_
    refine s_ldc2 dX9_nameHere_15 kc_X9_196 ?_
    refine s_callS (d' := d - 1) (bc' := 0) (bs' := 0) (as := [_, _, _]) dX9_nameHere_18 sf_X9_143 (dd_ (by omega) (by decide)) ⟨Nat.zero_le _, Nat.zero_le _⟩ rfl rfl (Nat.le_of_ble_eq_true rfl) ?_
    refine c_X9_isIn (inI_L ⟨by omega, by omega⟩) ⟨by omega, by omega⟩ ⟨by omega, by omega⟩ ?_
    refine s_if_eq (tgt := 31) dX9_nameHere_21 (by decide) (by first | exact hG1.2 _ _ | exact hG.2 _ _ | exact b01_in _ | assumption | exact ⟨by omega, by omega⟩) (fun c2 => ?_) (fun c2 => ?_)
    · have cc := b01_0.mp c2
      have nu : ¬ okU T n a := fun q => by unfold okU at q; omega
      have S9 := S1
      have e9 := e1--go
      have c2 := b01_0.mp c2
      refine s_iconst dX9_nameHere_31 ?_
      exact s_ireturn dX9_nameHere_32 rfl (q_val (by unfold nc_; rw [iC_f nu]) (k _ S9 e9))
    · have c2 := b01_n.mp c2
      refine s_aload_n dX9_nameHere_24 rfl ?_
      refine s_callV (d' := d - 1) (bc' := 0) (bs' := 0) (as := []) dX9_nameHere_25 vf_X9_198 (dd_ (by omega) (by decide)) ⟨Nat.zero_le _, Nat.zero_le _⟩ rfl rfl (Nat.le_of_ble_eq_true rfl) kl_7 rfl io_196 ?_
      refine c_X9_isKeyword (by omega) S1 (fun h2 S2 e2 => ?_)
      have hG2 := S2.1.1
      refine s_if_eq (tgt := 33) dX9_nameHere_28 (by decide) (by first | exact hG2.2 _ _ | exact hG.2 _ _ | exact b01_in _ | assumption | exact ⟨by omega, by omega⟩) (fun c3 => ?_) (fun c3 => ?_)
      · have c3 := b01_0.mp c3
        refine s_iconst dX9_nameHere_33 ?_
        refine s_istore_n dX9_nameHere_34 (by decide) rfl (L' := [_, _, _, _]) rfl ?_
        refine s_iconst dX9_nameHere_35 ?_
        refine s_istore_n dX9_nameHere_36 (by decide) rfl (L' := [_, _, _, _]) rfl ?_
        have c0 : okU T n a := by unfold okU; omega
        exact lp_X9_nameHere S2.1 e2 (by omega) (by omega) (q_val (by unfold nc_; rw [iC_t c0]) (k h2 S2 e2)) (wl__ T n a).toNat 0 0 (Int.le_refl _) (by omega) rfl
      · have cc := b01_n.mp c3
        have nu : ¬ okU T n a := fun q => by unfold okU at q; omega
        have S9 := S2
        have e9 := e2--go
        have c3 := b01_n.mp c3
        refine s_iconst dX9_nameHere_31 ?_
        exact s_ireturn dX9_nameHere_32 rfl (q_val (by unfold nc_; rw [iC_f nu]) (k _ S9 e9))
set_option maxRecDepth 100000 in
set_option maxHeartbeats 4000000 in
theorem kw_X9_nameHere  (hd : 2 ≤ d) (S : WR9 n T h0 f h) (k : ∀ h1 : PH, WR9 n T h0 f h1 → Q.1 (some (0, 0)) nN h1) : Cl_ yX9_nameHere MX9_nameHere d bc bs [(2, 196)] nN h Q := by
  refine s_enter pn_X9 rfl (Nat.le_of_ble_eq_true rfl) (L := [(2, _), (9, 0), (9, 0), (9, 0)]) rfl ?_
  have hG := S.1.1
  have fb := S.2.2.2
  have ok : ¬ h 196 17 = -1 := by have := S.2.2.1; omega
  refine s_aload_n dX9_nameHere_0 rfl ?_
  refine s_callV (d' := d - 1) (bc' := 0) (bs' := 0) (as := []) dX9_nameHere_1 vf_X9_118 (dd_ (by omega) (by decide)) ⟨Nat.zero_le _, Nat.zero_le _⟩ rfl rfl (Nat.le_of_ble_eq_true rfl) kl_7 rfl io_196 ?_
  refine c_X9_wordLong (by omega) S.1 (fun h1 R1 f1 e1 => ?_)
  have hG1 := R1.1
  have S1 := wr_at S R1 f1
  have hG := hG1
  have ok : ¬ h1 196 17 = -1 := by have e := S1.2.2.1; have b := S1.2.2.2; omega
  refine s_istore_n dX9_nameHere_4 (by decide) rfl (L' := [_, _, _, _]) rfl ?_
  refine s_aload_n dX9_nameHere_5 rfl ?_
  refine s_callV (d' := d - 1) (bc' := 0) (bs' := 0) (as := []) dX9_nameHere_6 vf_X9_114 (dd_ (by omega) (by decide)) ⟨Nat.zero_le _, Nat.zero_le _⟩ rfl rfl (Nat.le_of_ble_eq_true rfl) kl_7 rfl io_196 ?_
  refine c_X9_isWrong hG ?_
  refine s_if_ne (tgt := 31) dX9_nameHere_9 (by decide) (by first | exact hG1.2 _ _ | exact hG.2 _ _ | exact b01_in _ | assumption | exact ⟨by omega, by omega⟩) (fun c1 => ?_) (fun c1 => ?_)
  · have c1 := b01_n.mp c1
    refine s_iconst dX9_nameHere_31 ?_
    exact s_ireturn dX9_nameHere_32 rfl (k h1 S1)
  · exact absurd (b01_0.mp c1) (fun q => q ok)
end X9Q
