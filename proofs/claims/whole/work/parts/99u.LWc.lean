/-! the law's own methods that catch -/
theorem kl_L_13 : Cond.classLink RL 13 "java/lang/IllegalArgumentException" ∈ TBL := tb_in 718 (by decide +kernel) (by decide +kernel)
theorem kl_L_19 : Cond.classLink RL 19 "java/lang/IndexOutOfBoundsException" ∈ TBL := tb_in 1011 (by decide +kernel) (by decide +kernel)
theorem kl_L_25 : Cond.classLink RL 25 "java/util/NoSuchElementException" ∈ TBL := tb_in 1048 (by decide +kernel) (by decide +kernel)
theorem kl_L_37 : Cond.classLink RL 37 "java/lang/IllegalStateException" ∈ TBL := tb_in 1107 (by decide +kernel) (by decide +kernel)
theorem ka_L_13 : Cond.castable "java/lang/IllegalArgumentException" "java/lang/IllegalArgumentException" ∈ kxw_ := kxw_in 761 (by decide +kernel) rfl
theorem ka_L_19 : Cond.castable "java/lang/IndexOutOfBoundsException" "java/lang/IndexOutOfBoundsException" ∈ kxw_ := kxw_in 1022 (by decide +kernel) rfl
theorem ka_L_25 : Cond.castable "java/util/NoSuchElementException" "java/util/NoSuchElementException" ∈ kxw_ := kxw_in 1065 (by decide +kernel) rfl
theorem ka_L_37 : Cond.castable "java/lang/IllegalStateException" "java/lang/IllegalStateException" ∈ kxw_ := kxw_in 1125 (by decide +kernel) rfl
section LWC
variable {d bc bs : Nat} {Q : PQ} {h z : PH}
abbrev ML_read : PM := (RL, cL_read, 3, (some .int))
abbrev HL_read : List (Nat × Nat × Nat × Nat) := [(0, 8, 11, 13)]
theorem sx_read : SX_ RL 128 yL_read ML_read HL_read 2 := ⟨tb_in 122 (by decide +kernel) (by decide +kernel), tb_in 717 (by decide +kernel) (by decide +kernel), ⟨by decide +kernel, by decide +kernel⟩, np_len (by decide +kernel), tb_in 715 (by decide +kernel) (by decide +kernel), tb_in 716 (by decide +kernel) (by decide +kernel)⟩
set_option maxRecDepth 100000 in
set_option maxHeartbeats 4000000 in
theorem w_read (hd : 15 ≤ d) (hbc : 700 ≤ bc) (hbs : 1400 ≤ bs) (C : CR_ h z) (B : B5_ h) (k : MKC_ Q h (op_read z).2.2 (op_read z).1 (op_read z).2.1) : CW_ (.codeWith yL_read ML_read.2.1 ML_read.2.2.1 ML_read.2.2.2 HL_read) yL_read d bc bs [(2, 0), (2, 224)] nN h Q := by
  refine s_enterH (M := ML_read) pn_L rfl (Nat.le_of_ble_eq_true rfl) (L := [(2, _), (2, _), (9, _)]) rfl ?_
  refine s_aload_n dL_read_0 rfl ?_
  refine s_iconst dL_read_1 ?_
  refine s_aload_n dL_read_2 rfl ?_
  refine e_callVH (d' := d - 1) (bc' := bc) (bs' := bs) (as := []) (EX := EX_ Q [("java/lang/IllegalArgumentException", 1)]) dL_read_3 vf_L_7 (dd_ (by omega) (by decide)) ⟨Nat.le_refl _, Nat.le_refl _⟩ rfl rfl (Nat.le_of_ble_eq_true rfl) kl_6 rfl io_0 ?_ ?_
  · refine c_X8_read (by omega) (by omega) (by omega) C (fun a1 h1 C1 f1 => ?_) (fun a1 h1 C1 f1 => ?_)
    · have k9 := k
      unfold op_read at k9
      rw [if_pos (by first | assumption | omega | exact ⟨a1⟩)] at k9
      refine s_i2lW dL_read_6 ?_
      refine s_lastoreG dL_read_7 io_224 (by decide) (by decide) C1.1 (i3_in _) (fun hG2 => ?_)
      refine s_goto (tgt := 14) dL_read_8 (by decide) ?_
      refine s_iconst dL_read_14 ?_
      refine s_ireturn dL_read_15 rfl ?_
      exact k9 _ (cr_put C1 hG2) (b5_put (b5_lo B (fun y => f1 195 y (by omega)))) (fl_put (fun x y a => f1 x y (by omega)) _) (fun _ => hs_eq _ _ _ _)
    · have k9 := k
      unfold op_read at k9
      rw [if_neg (by first | omega | assumption | (intro q; exact absurd q (by assumption)))] at k9
      exact ⟨rfl, 1, by simp [vy_X], k9 h1 C1 (b5_lo B (fun y => f1 195 y (by omega))) (fl_id (fun x y a => f1 x y (by omega))) (fun q => absurd (show (1 : Int) = 0 from q) (by decide))⟩
  · rintro E9 N' h1 ⟨rfl, K, hm, hq⟩
    simp only [List.mem_cons, List.not_mem_nil, or_false, Prod.mk.injEq] at hm
    obtain ⟨rfl, rfl⟩ := hm
    · refine ⟨11, 2, 1, ⟨[], (0, 8, 11, 13), [], _, rfl, fun z hz => absurd hz List.not_mem_nil, by decide, by decide, by decide, kl_L_13, ka_L_13, rfl⟩, Or.inl ⟨2, rfl, rfl, dL_read_11⟩, by decide, rfl, ?_⟩
      refine s_iconst dL_read_12 ?_
      exact s_ireturn dL_read_13 rfl hq
abbrev ML_name : PM := (RL, cL_name, 6, (some .int))
abbrev HL_name : List (Nat × Nat × Nat × Nat) := [(0, 12, 15, 19)]
theorem sx_name : SX_ RL 141 yL_name ML_name HL_name 5 := ⟨tb_in 122 (by decide +kernel) (by decide +kernel), tb_in 1010 (by decide +kernel) (by decide +kernel), ⟨by decide +kernel, by decide +kernel⟩, np_len (by decide +kernel), tb_in 1008 (by decide +kernel) (by decide +kernel), tb_in 1009 (by decide +kernel) (by decide +kernel)⟩
set_option maxRecDepth 100000 in
set_option maxHeartbeats 4000000 in
theorem w_name {q i t : Int} (hd : 15 ≤ d) (hbc : 700 ≤ bc) (hbs : 1400 ≤ bs) (C : CR_ h z) (B : B5_ h) (hq : q = 0 ∨ q = 1) (hi : inI i) (ht : inI t) (k : MKC_ Q h (op_name z q i t).2.2 (op_name z q i t).1 (op_name z q i t).2.1) : CW_ (.codeWith yL_name ML_name.2.1 ML_name.2.2.1 ML_name.2.2.2 HL_name) yL_name d bc bs [(2, 0), (0, q), (0, i), (0, t), (2, 224)] nN h Q := by
  refine s_enterH (M := ML_name) pn_L rfl (Nat.le_of_ble_eq_true rfl) (L := [(2, _), (0, _), (0, _), (0, _), (2, _), (9, _)]) rfl ?_
  refine s_aload dL_name_0 rfl ?_
  refine s_iconst dL_name_2 ?_
  refine s_aload_n dL_name_3 rfl ?_
  refine s_iload_n dL_name_4 rfl ?_
  refine s_iload_n dL_name_5 rfl ?_
  refine s_iload_n dL_name_6 rfl ?_
  refine e_callVH (d' := d - 1) (bc' := bc) (bs' := bs) (as := [_, _, _]) (EX := EX_ Q [("java/lang/IndexOutOfBoundsException", 1)]) dL_name_7 vf_L_15 (dd_ (by omega) (by decide)) ⟨Nat.le_refl _, Nat.le_refl _⟩ rfl rfl (Nat.le_of_ble_eq_true rfl) kl_6 rfl io_0 ?_ ?_
  · refine c_X8_name (by omega) (by omega) (by omega) C (by assumption) (by assumption) (by assumption) (fun a1 h1 C1 f1 => ?_) (fun a1 h1 C1 f1 => ?_)
    · have k9 := k
      unfold op_name at k9
      rw [if_pos (by first | assumption | omega | exact ⟨a1⟩)] at k9
      refine s_i2lW dL_name_10 ?_
      refine s_lastoreG dL_name_11 io_224 (by decide) (by decide) C1.1 (i3_in _) (fun hG2 => ?_)
      refine s_goto (tgt := 19) dL_name_12 (by decide) ?_
      refine s_iconst dL_name_19 ?_
      refine s_ireturn dL_name_20 rfl ?_
      exact k9 _ (cr_put C1 hG2) (b5_put (b5_lo B (fun y => f1 195 y (by omega)))) (fl_put (fun x y a => f1 x y (by omega)) _) (fun _ => hs_eq _ _ _ _)
    · have k9 := k
      unfold op_name at k9
      rw [if_neg (by first | omega | assumption | (intro q; exact absurd q (by assumption)))] at k9
      exact ⟨rfl, 1, by simp [vy_X], k9 h1 C1 (b5_lo B (fun y => f1 195 y (by omega))) (fl_id (fun x y a => f1 x y (by omega))) (fun q => absurd (show (1 : Int) = 0 from q) (by decide))⟩
  · rintro E9 N' h1 ⟨rfl, K, hm, hq⟩
    simp only [List.mem_cons, List.not_mem_nil, or_false, Prod.mk.injEq] at hm
    obtain ⟨rfl, rfl⟩ := hm
    · refine ⟨15, 5, 2, ⟨[], (0, 12, 15, 19), [], _, rfl, fun z hz => absurd hz List.not_mem_nil, by decide, by decide, by decide, kl_L_19, ka_L_19, rfl⟩, Or.inr ⟨rfl, dL_name_15⟩, by decide, rfl, ?_⟩
      refine s_iconst dL_name_17 ?_
      exact s_ireturn dL_name_18 rfl hq
abbrev ML_thing : PM := (RL, cL_thing, 5, (some .int))
abbrev HL_thing : List (Nat × Nat × Nat × Nat) := [(0, 10, 13, 19), (0, 10, 17, 25)]
theorem sx_thing : SX_ RL 145 yL_thing ML_thing HL_thing 4 := ⟨tb_in 122 (by decide +kernel) (by decide +kernel), tb_in 1047 (by decide +kernel) (by decide +kernel), ⟨by decide +kernel, by decide +kernel⟩, np_len (by decide +kernel), tb_in 1045 (by decide +kernel) (by decide +kernel), tb_in 1046 (by decide +kernel) (by decide +kernel)⟩
set_option maxRecDepth 100000 in
set_option maxHeartbeats 4000000 in
theorem w_thing {t v : Int} (hd : 15 ≤ d) (hbc : 700 ≤ bc) (hbs : 1400 ≤ bs) (C : CR_ h z) (B : B5_ h) (ht : inI t) (hv : inI v) (k : MKC_ Q h (op_thing z t v).2.2 (op_thing z t v).1 (op_thing z t v).2.1) : CW_ (.codeWith yL_thing ML_thing.2.1 ML_thing.2.2.1 ML_thing.2.2.2 HL_thing) yL_thing d bc bs [(2, 0), (0, t), (0, v), (2, 224)] nN h Q := by
  refine s_enterH (M := ML_thing) pn_L rfl (Nat.le_of_ble_eq_true rfl) (L := [(2, _), (0, _), (0, _), (2, _), (9, _)]) rfl ?_
  refine s_aload_n dL_thing_0 rfl ?_
  refine s_iconst dL_thing_1 ?_
  refine s_aload_n dL_thing_2 rfl ?_
  refine s_iload_n dL_thing_3 rfl ?_
  refine s_iload_n dL_thing_4 rfl ?_
  refine e_callVH (d' := d - 1) (bc' := bc) (bs' := bs) (as := [_, _]) (EX := EX_ Q [("java/lang/IndexOutOfBoundsException", 1), ("java/util/NoSuchElementException", 2)]) dL_thing_5 vf_L_21 (dd_ (by omega) (by decide)) ⟨Nat.le_refl _, Nat.le_refl _⟩ rfl rfl (Nat.le_of_ble_eq_true rfl) kl_6 rfl io_0 ?_ ?_
  · refine c_X8_thing (by omega) (by omega) (by omega) C (by assumption) (by assumption) (fun a1 a2 a3 a4 h1 C1 f1 => ?_) (fun a1 h1 C1 f1 => ?_) (fun a1 a2 a3 h1 C1 f1 => ?_)
    · have k9 := k
      unfold op_thing at k9
      rw [if_pos (by first | assumption | omega | exact ⟨a1, a2, a3, a4⟩)] at k9
      refine s_i2lW dL_thing_8 ?_
      refine s_lastoreG dL_thing_9 io_224 (by decide) (by decide) C1.1 (i3_in _) (fun hG2 => ?_)
      refine s_goto (tgt := 21) dL_thing_10 (by decide) ?_
      refine s_iconst dL_thing_21 ?_
      refine s_ireturn dL_thing_22 rfl ?_
      exact k9 _ (cr_put C1 hG2) (b5_put (b5_lo B (fun y => f1 195 y (by omega)))) (fl_put (fun x y a => f1 x y (by omega)) _) (fun _ => hs_eq _ _ _ _)
    · have k9 := k
      unfold op_thing at k9
      rw [if_neg (by first | omega | assumption | (intro q; exact absurd q (by assumption))), if_pos (by first | assumption | omega | exact ⟨a1⟩)] at k9
      exact ⟨rfl, 1, by simp [vy_X], k9 h1 C1 (b5_lo B (fun y => f1 195 y (by omega))) (fl_id (fun x y a => f1 x y (by omega))) (fun q => absurd (show (1 : Int) = 0 from q) (by decide))⟩
    · have k9 := k
      unfold op_thing at k9
      rw [if_neg (by first | omega | assumption | (intro q; exact absurd q (by assumption))), if_neg (by first | omega | assumption | (intro q; exact absurd q (by assumption)))] at k9
      exact ⟨rfl, 2, by simp [vy_X], k9 h1 C1 (b5_lo B (fun y => f1 195 y (by omega))) (fl_id (fun x y a => f1 x y (by omega))) (fun q => absurd (show (2 : Int) = 0 from q) (by decide))⟩
  · rintro E9 N' h1 ⟨rfl, K, hm, hq⟩
    simp only [List.mem_cons, List.not_mem_nil, or_false, Prod.mk.injEq] at hm
    rcases hm with ⟨rfl, rfl⟩ | ⟨rfl, rfl⟩
    · refine ⟨13, 4, 2, ⟨[], (0, 10, 13, 19), [(0, 10, 17, 25)], _, rfl, fun z hz => absurd hz List.not_mem_nil, by decide, by decide, by decide, kl_L_19, ka_L_19, rfl⟩, Or.inr ⟨rfl, dL_thing_13⟩, by decide, rfl, ?_⟩
      refine s_iconst dL_thing_15 ?_
      exact s_ireturn dL_thing_16 rfl hq
    · refine ⟨17, 4, 2, ⟨[(0, 10, 13, 19)], (0, 10, 17, 25), [], _, rfl, fun z hz => by
        simp only [List.mem_cons, List.not_mem_nil, or_false] at hz
        subst hz
        exact ⟨by decide, _, kl_L_19, by simp [kxn_]⟩, by decide, by decide, by decide, kl_L_25, ka_L_25, rfl⟩, Or.inr ⟨rfl, dL_thing_17⟩, by decide, rfl, ?_⟩
      refine s_iconst dL_thing_19 ?_
      exact s_ireturn dL_thing_20 rfl hq
abbrev ML_person : PM := (RL, cL_person, 5, (some .int))
abbrev HL_person : List (Nat × Nat × Nat × Nat) := [(0, 10, 13, 19), (0, 10, 17, 25)]
theorem sx_person : SX_ RL 149 yL_person ML_person HL_person 4 := ⟨tb_in 122 (by decide +kernel) (by decide +kernel), tb_in 1081 (by decide +kernel) (by decide +kernel), ⟨by decide +kernel, by decide +kernel⟩, np_len (by decide +kernel), tb_in 1079 (by decide +kernel) (by decide +kernel), tb_in 1080 (by decide +kernel) (by decide +kernel)⟩
set_option maxRecDepth 100000 in
set_option maxHeartbeats 4000000 in
theorem w_person {p v : Int} (hd : 15 ≤ d) (hbc : 700 ≤ bc) (hbs : 1400 ≤ bs) (C : CR_ h z) (B : B5_ h) (hp : inI p) (hv : inI v) (k : MKC_ Q h (op_person z p v).2.2 (op_person z p v).1 (op_person z p v).2.1) : CW_ (.codeWith yL_person ML_person.2.1 ML_person.2.2.1 ML_person.2.2.2 HL_person) yL_person d bc bs [(2, 0), (0, p), (0, v), (2, 224)] nN h Q := by
  refine s_enterH (M := ML_person) pn_L rfl (Nat.le_of_ble_eq_true rfl) (L := [(2, _), (0, _), (0, _), (2, _), (9, _)]) rfl ?_
  refine s_aload_n dL_person_0 rfl ?_
  refine s_iconst dL_person_1 ?_
  refine s_aload_n dL_person_2 rfl ?_
  refine s_iload_n dL_person_3 rfl ?_
  refine s_iload_n dL_person_4 rfl ?_
  refine e_callVH (d' := d - 1) (bc' := bc) (bs' := bs) (as := [_, _]) (EX := EX_ Q [("java/lang/IndexOutOfBoundsException", 1), ("java/util/NoSuchElementException", 2)]) dL_person_5 vf_L_27 (dd_ (by omega) (by decide)) ⟨Nat.le_refl _, Nat.le_refl _⟩ rfl rfl (Nat.le_of_ble_eq_true rfl) kl_6 rfl io_0 ?_ ?_
  · refine c_X8_person (by omega) (by omega) (by omega) C (by assumption) (by assumption) (fun a1 a2 a3 a4 h1 C1 f1 => ?_) (fun a1 h1 C1 f1 => ?_) (fun a1 a2 a3 h1 C1 f1 => ?_)
    · have k9 := k
      unfold op_person at k9
      rw [if_pos (by first | assumption | omega | exact ⟨a1, a2, a3, a4⟩)] at k9
      refine s_i2lW dL_person_8 ?_
      refine s_lastoreG dL_person_9 io_224 (by decide) (by decide) C1.1 (i3_in _) (fun hG2 => ?_)
      refine s_goto (tgt := 21) dL_person_10 (by decide) ?_
      refine s_iconst dL_person_21 ?_
      refine s_ireturn dL_person_22 rfl ?_
      exact k9 _ (cr_put C1 hG2) (b5_put (b5_lo B (fun y => f1 195 y (by omega)))) (fl_put (fun x y a => f1 x y (by omega)) _) (fun _ => hs_eq _ _ _ _)
    · have k9 := k
      unfold op_person at k9
      rw [if_neg (by first | omega | assumption | (intro q; exact absurd q (by assumption))), if_pos (by first | assumption | omega | exact ⟨a1⟩)] at k9
      exact ⟨rfl, 1, by simp [vy_X], k9 h1 C1 (b5_lo B (fun y => f1 195 y (by omega))) (fl_id (fun x y a => f1 x y (by omega))) (fun q => absurd (show (1 : Int) = 0 from q) (by decide))⟩
    · have k9 := k
      unfold op_person at k9
      rw [if_neg (by first | omega | assumption | (intro q; exact absurd q (by assumption))), if_neg (by first | omega | assumption | (intro q; exact absurd q (by assumption)))] at k9
      exact ⟨rfl, 2, by simp [vy_X], k9 h1 C1 (b5_lo B (fun y => f1 195 y (by omega))) (fl_id (fun x y a => f1 x y (by omega))) (fun q => absurd (show (2 : Int) = 0 from q) (by decide))⟩
  · rintro E9 N' h1 ⟨rfl, K, hm, hq⟩
    simp only [List.mem_cons, List.not_mem_nil, or_false, Prod.mk.injEq] at hm
    rcases hm with ⟨rfl, rfl⟩ | ⟨rfl, rfl⟩
    · refine ⟨13, 4, 2, ⟨[], (0, 10, 13, 19), [(0, 10, 17, 25)], _, rfl, fun z hz => absurd hz List.not_mem_nil, by decide, by decide, by decide, kl_L_19, ka_L_19, rfl⟩, Or.inr ⟨rfl, dL_person_13⟩, by decide, rfl, ?_⟩
      refine s_iconst dL_person_15 ?_
      exact s_ireturn dL_person_16 rfl hq
    · refine ⟨17, 4, 2, ⟨[(0, 10, 13, 19)], (0, 10, 17, 25), [], _, rfl, fun z hz => by
        simp only [List.mem_cons, List.not_mem_nil, or_false] at hz
        subst hz
        exact ⟨by decide, _, kl_L_19, by simp [kxn_]⟩, by decide, by decide, by decide, kl_L_25, ka_L_25, rfl⟩, Or.inr ⟨rfl, dL_person_17⟩, by decide, rfl, ?_⟩
      refine s_iconst dL_person_19 ?_
      exact s_ireturn dL_person_20 rfl hq
abbrev ML_gift : PM := (RL, cL_gift, 5, (some .int))
abbrev HL_gift : List (Nat × Nat × Nat × Nat) := [(0, 10, 13, 19), (0, 10, 17, 25)]
theorem sx_gift : SX_ RL 152 yL_gift ML_gift HL_gift 4 := ⟨tb_in 122 (by decide +kernel) (by decide +kernel), tb_in 1089 (by decide +kernel) (by decide +kernel), ⟨by decide +kernel, by decide +kernel⟩, np_len (by decide +kernel), tb_in 1087 (by decide +kernel) (by decide +kernel), tb_in 1088 (by decide +kernel) (by decide +kernel)⟩
set_option maxRecDepth 100000 in
set_option maxHeartbeats 4000000 in
theorem w_gift {g v : Int} (hd : 15 ≤ d) (hbc : 700 ≤ bc) (hbs : 1400 ≤ bs) (C : CR_ h z) (B : B5_ h) (hg : inI g) (hv : inI v) (k : MKC_ Q h (op_gift z g v).2.2 (op_gift z g v).1 (op_gift z g v).2.1) : CW_ (.codeWith yL_gift ML_gift.2.1 ML_gift.2.2.1 ML_gift.2.2.2 HL_gift) yL_gift d bc bs [(2, 0), (0, g), (0, v), (2, 224)] nN h Q := by
  refine s_enterH (M := ML_gift) pn_L rfl (Nat.le_of_ble_eq_true rfl) (L := [(2, _), (0, _), (0, _), (2, _), (9, _)]) rfl ?_
  refine s_aload_n dL_gift_0 rfl ?_
  refine s_iconst dL_gift_1 ?_
  refine s_aload_n dL_gift_2 rfl ?_
  refine s_iload_n dL_gift_3 rfl ?_
  refine s_iload_n dL_gift_4 rfl ?_
  refine e_callVH (d' := d - 1) (bc' := bc) (bs' := bs) (as := [_, _]) (EX := EX_ Q [("java/lang/IndexOutOfBoundsException", 1), ("java/util/NoSuchElementException", 2)]) dL_gift_5 vf_L_30 (dd_ (by omega) (by decide)) ⟨Nat.le_refl _, Nat.le_refl _⟩ rfl rfl (Nat.le_of_ble_eq_true rfl) kl_6 rfl io_0 ?_ ?_
  · refine c_X8_gift (by omega) (by omega) (by omega) C (by assumption) (by assumption) (fun a1 a2 a3 a4 h1 C1 f1 => ?_) (fun a1 h1 C1 f1 => ?_) (fun a1 a2 a3 h1 C1 f1 => ?_)
    · have k9 := k
      unfold op_gift at k9
      rw [if_pos (by first | assumption | omega | exact ⟨a1, a2, a3, a4⟩)] at k9
      refine s_i2lW dL_gift_8 ?_
      refine s_lastoreG dL_gift_9 io_224 (by decide) (by decide) C1.1 (i3_in _) (fun hG2 => ?_)
      refine s_goto (tgt := 21) dL_gift_10 (by decide) ?_
      refine s_iconst dL_gift_21 ?_
      refine s_ireturn dL_gift_22 rfl ?_
      exact k9 _ (cr_put C1 hG2) (b5_put (b5_lo B (fun y => f1 195 y (by omega)))) (fl_put (fun x y a => f1 x y (by omega)) _) (fun _ => hs_eq _ _ _ _)
    · have k9 := k
      unfold op_gift at k9
      rw [if_neg (by first | omega | assumption | (intro q; exact absurd q (by assumption))), if_pos (by first | assumption | omega | exact ⟨a1⟩)] at k9
      exact ⟨rfl, 1, by simp [vy_X], k9 h1 C1 (b5_lo B (fun y => f1 195 y (by omega))) (fl_id (fun x y a => f1 x y (by omega))) (fun q => absurd (show (1 : Int) = 0 from q) (by decide))⟩
    · have k9 := k
      unfold op_gift at k9
      rw [if_neg (by first | omega | assumption | (intro q; exact absurd q (by assumption))), if_neg (by first | omega | assumption | (intro q; exact absurd q (by assumption)))] at k9
      exact ⟨rfl, 2, by simp [vy_X], k9 h1 C1 (b5_lo B (fun y => f1 195 y (by omega))) (fl_id (fun x y a => f1 x y (by omega))) (fun q => absurd (show (2 : Int) = 0 from q) (by decide))⟩
  · rintro E9 N' h1 ⟨rfl, K, hm, hq⟩
    simp only [List.mem_cons, List.not_mem_nil, or_false, Prod.mk.injEq] at hm
    rcases hm with ⟨rfl, rfl⟩ | ⟨rfl, rfl⟩
    · refine ⟨13, 4, 2, ⟨[], (0, 10, 13, 19), [(0, 10, 17, 25)], _, rfl, fun z hz => absurd hz List.not_mem_nil, by decide, by decide, by decide, kl_L_19, ka_L_19, rfl⟩, Or.inr ⟨rfl, dL_gift_13⟩, by decide, rfl, ?_⟩
      refine s_iconst dL_gift_15 ?_
      exact s_ireturn dL_gift_16 rfl hq
    · refine ⟨17, 4, 2, ⟨[(0, 10, 13, 19)], (0, 10, 17, 25), [], _, rfl, fun z hz => by
        simp only [List.mem_cons, List.not_mem_nil, or_false] at hz
        subst hz
        exact ⟨by decide, _, kl_L_19, by simp [kxn_]⟩, by decide, by decide, by decide, kl_L_25, ka_L_25, rfl⟩, Or.inr ⟨rfl, dL_gift_17⟩, by decide, rfl, ?_⟩
      refine s_iconst dL_gift_19 ?_
      exact s_ireturn dL_gift_20 rfl hq
abbrev ML_sell : PM := (RL, cL_sell, 6, (some .int))
abbrev HL_sell : List (Nat × Nat × Nat × Nat) := [(0, 12, 15, 19), (0, 12, 19, 13), (0, 12, 23, 37)]
theorem sx_sell : SX_ RL 155 yL_sell ML_sell HL_sell 5 := ⟨tb_in 122 (by decide +kernel) (by decide +kernel), tb_in 1106 (by decide +kernel) (by decide +kernel), ⟨by decide +kernel, by decide +kernel⟩, np_len (by decide +kernel), tb_in 1104 (by decide +kernel) (by decide +kernel), tb_in 1105 (by decide +kernel) (by decide +kernel)⟩
set_option maxRecDepth 100000 in
set_option maxHeartbeats 4000000 in
theorem w_sell {t p v : Int} (hd : 15 ≤ d) (hbc : 700 ≤ bc) (hbs : 1400 ≤ bs) (C : CR_ h z) (B : B5_ h) (ht : inI t) (hp : inI p) (hv : inI v) (k : MKC_ Q h (op_sell z t p v).2.2 (op_sell z t p v).1 (op_sell z t p v).2.1) : CW_ (.codeWith yL_sell ML_sell.2.1 ML_sell.2.2.1 ML_sell.2.2.2 HL_sell) yL_sell d bc bs [(2, 0), (0, t), (0, p), (0, v), (2, 224)] nN h Q := by
  refine s_enterH (M := ML_sell) pn_L rfl (Nat.le_of_ble_eq_true rfl) (L := [(2, _), (0, _), (0, _), (0, _), (2, _), (9, _)]) rfl ?_
  refine s_aload dL_sell_0 rfl ?_
  refine s_iconst dL_sell_2 ?_
  refine s_aload_n dL_sell_3 rfl ?_
  refine s_iload_n dL_sell_4 rfl ?_
  refine s_iload_n dL_sell_5 rfl ?_
  refine s_iload_n dL_sell_6 rfl ?_
  refine e_callVH (d' := d - 1) (bc' := bc) (bs' := bs) (as := [_, _, _]) (EX := EX_ Q [("java/lang/IndexOutOfBoundsException", 1), ("java/lang/IllegalArgumentException", 2), ("java/lang/IllegalStateException", 3)]) dL_sell_7 vf_L_33 (dd_ (by omega) (by decide)) ⟨Nat.le_refl _, Nat.le_refl _⟩ rfl rfl (Nat.le_of_ble_eq_true rfl) kl_6 rfl io_0 ?_ ?_
  · refine c_X8_sell (by omega) (by omega) (by omega) C (by assumption) (by assumption) (by assumption) (fun a1 a2 a3 a4 a5 h1 C1 f1 => ?_) (fun a1 h1 C1 f1 => ?_) (fun a1 a2 a3 h1 C1 f1 => ?_) (fun a1 a2 a3 a4 h1 C1 f1 => ?_)
    · have k9 := k
      unfold op_sell at k9
      rw [if_pos (by first | assumption | omega | exact ⟨a1, a2, a3, a4, a5⟩)] at k9
      refine s_i2lW dL_sell_10 ?_
      refine s_lastoreG dL_sell_11 io_224 (by decide) (by decide) C1.1 (i3_in _) (fun hG2 => ?_)
      refine s_goto (tgt := 27) dL_sell_12 (by decide) ?_
      refine s_iconst dL_sell_27 ?_
      refine s_ireturn dL_sell_28 rfl ?_
      exact k9 _ (cr_put C1 hG2) (b5_put (b5_lo B (fun y => f1 195 y (by omega)))) (fl_put (fun x y a => f1 x y (by omega)) _) (fun _ => hs_eq _ _ _ _)
    · have k9 := k
      unfold op_sell at k9
      rw [if_neg (by first | omega | assumption | (intro q; exact absurd q (by assumption))), if_pos (by first | assumption | omega | exact ⟨a1⟩)] at k9
      exact ⟨rfl, 1, by simp [vy_X], k9 h1 C1 (b5_lo B (fun y => f1 195 y (by omega))) (fl_id (fun x y a => f1 x y (by omega))) (fun q => absurd (show (1 : Int) = 0 from q) (by decide))⟩
    · have k9 := k
      unfold op_sell at k9
      rw [if_neg (by first | omega | assumption | (intro q; exact absurd q (by assumption))), if_neg (by first | omega | assumption | (intro q; exact absurd q (by assumption))), if_pos (by first | assumption | omega | exact ⟨a1, a2, a3⟩)] at k9
      exact ⟨rfl, 2, by simp [vy_X], k9 h1 C1 (b5_lo B (fun y => f1 195 y (by omega))) (fl_id (fun x y a => f1 x y (by omega))) (fun q => absurd (show (2 : Int) = 0 from q) (by decide))⟩
    · have k9 := k
      unfold op_sell at k9
      rw [if_neg (by first | omega | assumption | (intro q; exact absurd q (by assumption))), if_neg (by first | omega | assumption | (intro q; exact absurd q (by assumption))), if_neg (by first | omega | assumption | (intro q; exact absurd q (by assumption)))] at k9
      exact ⟨rfl, 3, by simp [vy_X], k9 h1 C1 (b5_lo B (fun y => f1 195 y (by omega))) (fl_id (fun x y a => f1 x y (by omega))) (fun q => absurd (show (3 : Int) = 0 from q) (by decide))⟩
  · rintro E9 N' h1 ⟨rfl, K, hm, hq⟩
    simp only [List.mem_cons, List.not_mem_nil, or_false, Prod.mk.injEq] at hm
    rcases hm with ⟨rfl, rfl⟩ | ⟨rfl, rfl⟩ | ⟨rfl, rfl⟩
    · refine ⟨15, 5, 2, ⟨[], (0, 12, 15, 19), [(0, 12, 19, 13), (0, 12, 23, 37)], _, rfl, fun z hz => absurd hz List.not_mem_nil, by decide, by decide, by decide, kl_L_19, ka_L_19, rfl⟩, Or.inr ⟨rfl, dL_sell_15⟩, by decide, rfl, ?_⟩
      refine s_iconst dL_sell_17 ?_
      exact s_ireturn dL_sell_18 rfl hq
    · refine ⟨19, 5, 2, ⟨[(0, 12, 15, 19)], (0, 12, 19, 13), [(0, 12, 23, 37)], _, rfl, fun z hz => by
        simp only [List.mem_cons, List.not_mem_nil, or_false] at hz
        subst hz
        exact ⟨by decide, _, kl_L_19, by simp [kxn_]⟩, by decide, by decide, by decide, kl_L_13, ka_L_13, rfl⟩, Or.inr ⟨rfl, dL_sell_19⟩, by decide, rfl, ?_⟩
      refine s_iconst dL_sell_21 ?_
      exact s_ireturn dL_sell_22 rfl hq
    · refine ⟨23, 5, 2, ⟨[(0, 12, 15, 19), (0, 12, 19, 13)], (0, 12, 23, 37), [], _, rfl, fun z hz => by
        simp only [List.mem_cons, List.not_mem_nil, or_false] at hz
        rcases hz with rfl | rfl
        · exact ⟨by decide, _, kl_L_19, by simp [kxn_]⟩
        · exact ⟨by decide, _, kl_L_13, by simp [kxn_]⟩, by decide, by decide, by decide, kl_L_37, ka_L_37, rfl⟩, Or.inr ⟨rfl, dL_sell_23⟩, by decide, rfl, ?_⟩
      refine s_iconst dL_sell_25 ?_
      exact s_ireturn dL_sell_26 rfl hq
abbrev ML_change : PM := (RL, cL_change, 5, (some .int))
abbrev HL_change : List (Nat × Nat × Nat × Nat) := [(0, 10, 13, 19), (0, 10, 17, 13), (0, 10, 21, 37)]
theorem sx_change : SX_ RL 159 yL_change ML_change HL_change 4 := ⟨tb_in 122 (by decide +kernel) (by decide +kernel), tb_in 1153 (by decide +kernel) (by decide +kernel), ⟨by decide +kernel, by decide +kernel⟩, np_len (by decide +kernel), tb_in 1151 (by decide +kernel) (by decide +kernel), tb_in 1152 (by decide +kernel) (by decide +kernel)⟩
set_option maxRecDepth 100000 in
set_option maxHeartbeats 4000000 in
theorem w_change {t v : Int} (hd : 15 ≤ d) (hbc : 700 ≤ bc) (hbs : 1400 ≤ bs) (C : CR_ h z) (B : B5_ h) (ht : inI t) (hv : inI v) (k : MKC_ Q h (op_change z t v).2.2 (op_change z t v).1 (op_change z t v).2.1) : CW_ (.codeWith yL_change ML_change.2.1 ML_change.2.2.1 ML_change.2.2.2 HL_change) yL_change d bc bs [(2, 0), (0, t), (0, v), (2, 224)] nN h Q := by
  refine s_enterH (M := ML_change) pn_L rfl (Nat.le_of_ble_eq_true rfl) (L := [(2, _), (0, _), (0, _), (2, _), (9, _)]) rfl ?_
  refine s_aload_n dL_change_0 rfl ?_
  refine s_iconst dL_change_1 ?_
  refine s_aload_n dL_change_2 rfl ?_
  refine s_iload_n dL_change_3 rfl ?_
  refine s_iload_n dL_change_4 rfl ?_
  refine e_callVH (d' := d - 1) (bc' := bc) (bs' := bs) (as := [_, _]) (EX := EX_ Q [("java/lang/IndexOutOfBoundsException", 1), ("java/lang/IllegalArgumentException", 2), ("java/lang/IllegalStateException", 3)]) dL_change_5 vf_L_39 (dd_ (by omega) (by decide)) ⟨Nat.le_refl _, Nat.le_refl _⟩ rfl rfl (Nat.le_of_ble_eq_true rfl) kl_6 rfl io_0 ?_ ?_
  · refine c_X8_change (by omega) (by omega) (by omega) C (by assumption) (by assumption) (fun a1 a2 a3 a4 a5 h1 C1 f1 => ?_) (fun a1 h1 C1 f1 => ?_) (fun a1 a2 a3 h1 C1 f1 => ?_) (fun a1 a2 a3 a4 a5 h1 C1 f1 => ?_)
    · have k9 := k
      unfold op_change at k9
      rw [if_pos (by first | assumption | omega | exact ⟨a1, a2, a3, a4, a5⟩)] at k9
      refine s_i2lW dL_change_8 ?_
      refine s_lastoreG dL_change_9 io_224 (by decide) (by decide) C1.1 (i3_in _) (fun hG2 => ?_)
      refine s_goto (tgt := 25) dL_change_10 (by decide) ?_
      refine s_iconst dL_change_25 ?_
      refine s_ireturn dL_change_26 rfl ?_
      exact k9 _ (cr_put C1 hG2) (b5_put (b5_lo B (fun y => f1 195 y (by omega)))) (fl_put (fun x y a => f1 x y (by omega)) _) (fun _ => hs_eq _ _ _ _)
    · have k9 := k
      unfold op_change at k9
      rw [if_neg (by first | omega | assumption | (intro q; exact absurd q (by assumption))), if_pos (by first | assumption | omega | exact ⟨a1⟩)] at k9
      exact ⟨rfl, 1, by simp [vy_X], k9 h1 C1 (b5_lo B (fun y => f1 195 y (by omega))) (fl_id (fun x y a => f1 x y (by omega))) (fun q => absurd (show (1 : Int) = 0 from q) (by decide))⟩
    · have k9 := k
      unfold op_change at k9
      rw [if_neg (by first | omega | assumption | (intro q; exact absurd q (by assumption))), if_neg (by first | omega | assumption | (intro q; exact absurd q (by assumption))), if_pos (by first | assumption | omega | exact ⟨a1, a2, a3⟩)] at k9
      exact ⟨rfl, 2, by simp [vy_X], k9 h1 C1 (b5_lo B (fun y => f1 195 y (by omega))) (fl_id (fun x y a => f1 x y (by omega))) (fun q => absurd (show (2 : Int) = 0 from q) (by decide))⟩
    · have k9 := k
      unfold op_change at k9
      rw [if_neg (by first | omega | assumption | (intro q; exact absurd q (by assumption))), if_neg (by first | omega | assumption | (intro q; exact absurd q (by assumption))), if_neg (by first | omega | assumption | (intro q; exact absurd q (by assumption)))] at k9
      exact ⟨rfl, 3, by simp [vy_X], k9 h1 C1 (b5_lo B (fun y => f1 195 y (by omega))) (fl_id (fun x y a => f1 x y (by omega))) (fun q => absurd (show (3 : Int) = 0 from q) (by decide))⟩
  · rintro E9 N' h1 ⟨rfl, K, hm, hq⟩
    simp only [List.mem_cons, List.not_mem_nil, or_false, Prod.mk.injEq] at hm
    rcases hm with ⟨rfl, rfl⟩ | ⟨rfl, rfl⟩ | ⟨rfl, rfl⟩
    · refine ⟨13, 4, 2, ⟨[], (0, 10, 13, 19), [(0, 10, 17, 13), (0, 10, 21, 37)], _, rfl, fun z hz => absurd hz List.not_mem_nil, by decide, by decide, by decide, kl_L_19, ka_L_19, rfl⟩, Or.inr ⟨rfl, dL_change_13⟩, by decide, rfl, ?_⟩
      refine s_iconst dL_change_15 ?_
      exact s_ireturn dL_change_16 rfl hq
    · refine ⟨17, 4, 2, ⟨[(0, 10, 13, 19)], (0, 10, 17, 13), [(0, 10, 21, 37)], _, rfl, fun z hz => by
        simp only [List.mem_cons, List.not_mem_nil, or_false] at hz
        subst hz
        exact ⟨by decide, _, kl_L_19, by simp [kxn_]⟩, by decide, by decide, by decide, kl_L_13, ka_L_13, rfl⟩, Or.inr ⟨rfl, dL_change_17⟩, by decide, rfl, ?_⟩
      refine s_iconst dL_change_19 ?_
      exact s_ireturn dL_change_20 rfl hq
    · refine ⟨21, 4, 2, ⟨[(0, 10, 13, 19), (0, 10, 17, 13)], (0, 10, 21, 37), [], _, rfl, fun z hz => by
        simp only [List.mem_cons, List.not_mem_nil, or_false] at hz
        rcases hz with rfl | rfl
        · exact ⟨by decide, _, kl_L_19, by simp [kxn_]⟩
        · exact ⟨by decide, _, kl_L_13, by simp [kxn_]⟩, by decide, by decide, by decide, kl_L_37, ka_L_37, rfl⟩, Or.inr ⟨rfl, dL_change_21⟩, by decide, rfl, ?_⟩
      refine s_iconst dL_change_23 ?_
      exact s_ireturn dL_change_24 rfl hq
abbrev ML_lose : PM := (RL, cL_lose, 5, (some .int))
abbrev HL_lose : List (Nat × Nat × Nat × Nat) := [(0, 10, 13, 19), (0, 10, 17, 13), (0, 10, 21, 37)]
theorem sx_lose : SX_ RL 162 yL_lose ML_lose HL_lose 4 := ⟨tb_in 122 (by decide +kernel) (by decide +kernel), tb_in 1162 (by decide +kernel) (by decide +kernel), ⟨by decide +kernel, by decide +kernel⟩, np_len (by decide +kernel), tb_in 1160 (by decide +kernel) (by decide +kernel), tb_in 1161 (by decide +kernel) (by decide +kernel)⟩
set_option maxRecDepth 100000 in
set_option maxHeartbeats 4000000 in
theorem w_lose {t v : Int} (hd : 15 ≤ d) (hbc : 700 ≤ bc) (hbs : 1400 ≤ bs) (C : CR_ h z) (B : B5_ h) (ht : inI t) (hv : inI v) (k : MKC_ Q h (op_lose z t v).2.2 (op_lose z t v).1 (op_lose z t v).2.1) : CW_ (.codeWith yL_lose ML_lose.2.1 ML_lose.2.2.1 ML_lose.2.2.2 HL_lose) yL_lose d bc bs [(2, 0), (0, t), (0, v), (2, 224)] nN h Q := by
  refine s_enterH (M := ML_lose) pn_L rfl (Nat.le_of_ble_eq_true rfl) (L := [(2, _), (0, _), (0, _), (2, _), (9, _)]) rfl ?_
  refine s_aload_n dL_lose_0 rfl ?_
  refine s_iconst dL_lose_1 ?_
  refine s_aload_n dL_lose_2 rfl ?_
  refine s_iload_n dL_lose_3 rfl ?_
  refine s_iload_n dL_lose_4 rfl ?_
  refine e_callVH (d' := d - 1) (bc' := bc) (bs' := bs) (as := [_, _]) (EX := EX_ Q [("java/lang/IndexOutOfBoundsException", 1), ("java/lang/IllegalArgumentException", 2), ("java/lang/IllegalStateException", 3)]) dL_lose_5 vf_L_42 (dd_ (by omega) (by decide)) ⟨Nat.le_refl _, Nat.le_refl _⟩ rfl rfl (Nat.le_of_ble_eq_true rfl) kl_6 rfl io_0 ?_ ?_
  · refine c_X8_lose (by omega) (by omega) (by omega) C (by assumption) (by assumption) (fun a1 a2 a3 a4 a5 h1 C1 f1 => ?_) (fun a1 h1 C1 f1 => ?_) (fun a1 a2 a3 h1 C1 f1 => ?_) (fun a1 a2 a3 a4 a5 h1 C1 f1 => ?_)
    · have k9 := k
      unfold op_lose at k9
      rw [if_pos (by first | assumption | omega | exact ⟨a1, a2, a3, a4, a5⟩)] at k9
      refine s_i2lW dL_lose_8 ?_
      refine s_lastoreG dL_lose_9 io_224 (by decide) (by decide) C1.1 (i3_in _) (fun hG2 => ?_)
      refine s_goto (tgt := 25) dL_lose_10 (by decide) ?_
      refine s_iconst dL_lose_25 ?_
      refine s_ireturn dL_lose_26 rfl ?_
      exact k9 _ (cr_put C1 hG2) (b5_put (b5_lo B (fun y => f1 195 y (by omega)))) (fl_put (fun x y a => f1 x y (by omega)) _) (fun _ => hs_eq _ _ _ _)
    · have k9 := k
      unfold op_lose at k9
      rw [if_neg (by first | omega | assumption | (intro q; exact absurd q (by assumption))), if_pos (by first | assumption | omega | exact ⟨a1⟩)] at k9
      exact ⟨rfl, 1, by simp [vy_X], k9 h1 C1 (b5_lo B (fun y => f1 195 y (by omega))) (fl_id (fun x y a => f1 x y (by omega))) (fun q => absurd (show (1 : Int) = 0 from q) (by decide))⟩
    · have k9 := k
      unfold op_lose at k9
      rw [if_neg (by first | omega | assumption | (intro q; exact absurd q (by assumption))), if_neg (by first | omega | assumption | (intro q; exact absurd q (by assumption))), if_pos (by first | assumption | omega | exact ⟨a1, a2, a3⟩)] at k9
      exact ⟨rfl, 2, by simp [vy_X], k9 h1 C1 (b5_lo B (fun y => f1 195 y (by omega))) (fl_id (fun x y a => f1 x y (by omega))) (fun q => absurd (show (2 : Int) = 0 from q) (by decide))⟩
    · have k9 := k
      unfold op_lose at k9
      rw [if_neg (by first | omega | assumption | (intro q; exact absurd q (by assumption))), if_neg (by first | omega | assumption | (intro q; exact absurd q (by assumption))), if_neg (by first | omega | assumption | (intro q; exact absurd q (by assumption)))] at k9
      exact ⟨rfl, 3, by simp [vy_X], k9 h1 C1 (b5_lo B (fun y => f1 195 y (by omega))) (fl_id (fun x y a => f1 x y (by omega))) (fun q => absurd (show (3 : Int) = 0 from q) (by decide))⟩
  · rintro E9 N' h1 ⟨rfl, K, hm, hq⟩
    simp only [List.mem_cons, List.not_mem_nil, or_false, Prod.mk.injEq] at hm
    rcases hm with ⟨rfl, rfl⟩ | ⟨rfl, rfl⟩ | ⟨rfl, rfl⟩
    · refine ⟨13, 4, 2, ⟨[], (0, 10, 13, 19), [(0, 10, 17, 13), (0, 10, 21, 37)], _, rfl, fun z hz => absurd hz List.not_mem_nil, by decide, by decide, by decide, kl_L_19, ka_L_19, rfl⟩, Or.inr ⟨rfl, dL_lose_13⟩, by decide, rfl, ?_⟩
      refine s_iconst dL_lose_15 ?_
      exact s_ireturn dL_lose_16 rfl hq
    · refine ⟨17, 4, 2, ⟨[(0, 10, 13, 19)], (0, 10, 17, 13), [(0, 10, 21, 37)], _, rfl, fun z hz => by
        simp only [List.mem_cons, List.not_mem_nil, or_false] at hz
        subst hz
        exact ⟨by decide, _, kl_L_19, by simp [kxn_]⟩, by decide, by decide, by decide, kl_L_13, ka_L_13, rfl⟩, Or.inr ⟨rfl, dL_lose_17⟩, by decide, rfl, ?_⟩
      refine s_iconst dL_lose_19 ?_
      exact s_ireturn dL_lose_20 rfl hq
    · refine ⟨21, 4, 2, ⟨[(0, 10, 13, 19), (0, 10, 17, 13)], (0, 10, 21, 37), [], _, rfl, fun z hz => by
        simp only [List.mem_cons, List.not_mem_nil, or_false] at hz
        rcases hz with rfl | rfl
        · exact ⟨by decide, _, kl_L_19, by simp [kxn_]⟩
        · exact ⟨by decide, _, kl_L_13, by simp [kxn_]⟩, by decide, by decide, by decide, kl_L_37, ka_L_37, rfl⟩, Or.inr ⟨rfl, dL_lose_21⟩, by decide, rfl, ?_⟩
      refine s_iconst dL_lose_23 ?_
      exact s_ireturn dL_lose_24 rfl hq
abbrev ML_die : PM := (RL, cL_die, 4, (some .int))
abbrev HL_die : List (Nat × Nat × Nat × Nat) := [(0, 9, 12, 19), (0, 9, 15, 37)]
theorem sx_die : SX_ RL 165 yL_die ML_die HL_die 3 := ⟨tb_in 122 (by decide +kernel) (by decide +kernel), tb_in 1171 (by decide +kernel) (by decide +kernel), ⟨by decide +kernel, by decide +kernel⟩, np_len (by decide +kernel), tb_in 1169 (by decide +kernel) (by decide +kernel), tb_in 1170 (by decide +kernel) (by decide +kernel)⟩
set_option maxRecDepth 100000 in
set_option maxHeartbeats 4000000 in
theorem w_die {p : Int} (hd : 15 ≤ d) (hbc : 700 ≤ bc) (hbs : 1400 ≤ bs) (C : CR_ h z) (B : B5_ h) (hp : inI p) (k : MKC_ Q h (op_die z p).2.2 (op_die z p).1 (op_die z p).2.1) : CW_ (.codeWith yL_die ML_die.2.1 ML_die.2.2.1 ML_die.2.2.2 HL_die) yL_die d bc bs [(2, 0), (0, p), (2, 224)] nN h Q := by
  refine s_enterH (M := ML_die) pn_L rfl (Nat.le_of_ble_eq_true rfl) (L := [(2, _), (0, _), (2, _), (9, _)]) rfl ?_
  refine s_aload_n dL_die_0 rfl ?_
  refine s_iconst dL_die_1 ?_
  refine s_aload_n dL_die_2 rfl ?_
  refine s_iload_n dL_die_3 rfl ?_
  refine e_callVH (d' := d - 1) (bc' := bc) (bs' := bs) (as := [_]) (EX := EX_ Q [("java/lang/IndexOutOfBoundsException", 1), ("java/lang/IllegalStateException", 2)]) dL_die_4 vf_L_45 (dd_ (by omega) (by decide)) ⟨Nat.le_refl _, Nat.le_refl _⟩ rfl rfl (Nat.le_of_ble_eq_true rfl) kl_6 rfl io_0 ?_ ?_
  · refine c_X8_die (by omega) (by omega) (by omega) C (by assumption) (fun a1 a2 a3 h1 C1 f1 => ?_) (fun a1 h1 C1 f1 => ?_) (fun a1 a2 a3 h1 C1 f1 => ?_)
    · have k9 := k
      unfold op_die at k9
      rw [if_pos (by first | assumption | omega | exact ⟨a1, a2, a3⟩)] at k9
      refine s_i2lW dL_die_7 ?_
      refine s_lastoreG dL_die_8 io_224 (by decide) (by decide) C1.1 (i3_in _) (fun hG2 => ?_)
      refine s_goto (tgt := 18) dL_die_9 (by decide) ?_
      refine s_iconst dL_die_18 ?_
      refine s_ireturn dL_die_19 rfl ?_
      exact k9 _ (cr_put C1 hG2) (b5_put (b5_lo B (fun y => f1 195 y (by omega)))) (fl_put (fun x y a => f1 x y (by omega)) _) (fun _ => hs_eq _ _ _ _)
    · have k9 := k
      unfold op_die at k9
      rw [if_neg (by first | omega | assumption | (intro q; exact absurd q (by assumption))), if_pos (by first | assumption | omega | exact ⟨a1⟩)] at k9
      exact ⟨rfl, 1, by simp [vy_X], k9 h1 C1 (b5_lo B (fun y => f1 195 y (by omega))) (fl_id (fun x y a => f1 x y (by omega))) (fun q => absurd (show (1 : Int) = 0 from q) (by decide))⟩
    · have k9 := k
      unfold op_die at k9
      rw [if_neg (by first | omega | assumption | (intro q; exact absurd q (by assumption))), if_neg (by first | omega | assumption | (intro q; exact absurd q (by assumption)))] at k9
      exact ⟨rfl, 2, by simp [vy_X], k9 h1 C1 (b5_lo B (fun y => f1 195 y (by omega))) (fl_id (fun x y a => f1 x y (by omega))) (fun q => absurd (show (2 : Int) = 0 from q) (by decide))⟩
  · rintro E9 N' h1 ⟨rfl, K, hm, hq⟩
    simp only [List.mem_cons, List.not_mem_nil, or_false, Prod.mk.injEq] at hm
    rcases hm with ⟨rfl, rfl⟩ | ⟨rfl, rfl⟩
    · refine ⟨12, 3, 1, ⟨[], (0, 9, 12, 19), [(0, 9, 15, 37)], _, rfl, fun z hz => absurd hz List.not_mem_nil, by decide, by decide, by decide, kl_L_19, ka_L_19, rfl⟩, Or.inl ⟨3, rfl, rfl, dL_die_12⟩, by decide, rfl, ?_⟩
      refine s_iconst dL_die_13 ?_
      exact s_ireturn dL_die_14 rfl hq
    · refine ⟨15, 3, 1, ⟨[(0, 9, 12, 19)], (0, 9, 15, 37), [], _, rfl, fun z hz => by
        simp only [List.mem_cons, List.not_mem_nil, or_false] at hz
        subst hz
        exact ⟨by decide, _, kl_L_19, by simp [kxn_]⟩, by decide, by decide, by decide, kl_L_37, ka_L_37, rfl⟩, Or.inl ⟨3, rfl, rfl, dL_die_15⟩, by decide, rfl, ?_⟩
      refine s_iconst dL_die_16 ?_
      exact s_ireturn dL_die_17 rfl hq
abbrev ML_renounce : PM := (RL, cL_renounce, 5, (some .int))
abbrev HL_renounce : List (Nat × Nat × Nat × Nat) := [(0, 17, 20, 19)]
theorem sx_renounce : SX_ RL 169 yL_renounce ML_renounce HL_renounce 4 := ⟨tb_in 122 (by decide +kernel) (by decide +kernel), tb_in 1184 (by decide +kernel) (by decide +kernel), ⟨by decide +kernel, by decide +kernel⟩, np_len (by decide +kernel), tb_in 1182 (by decide +kernel) (by decide +kernel), tb_in 1183 (by decide +kernel) (by decide +kernel)⟩
set_option maxRecDepth 100000 in
set_option maxHeartbeats 4000000 in
theorem w_renounce {g v : Int} (hd : 15 ≤ d) (hbc : 700 ≤ bc) (hbs : 1400 ≤ bs) (C : CR_ h z) (B : B5_ h) (hg : inI g) (hv : v = 0 ∨ v = 1) (k : MKC_ Q h (op_renounce z g v).2.2 (op_renounce z g v).1 (op_renounce z g v).2.1) : CW_ (.codeWith yL_renounce ML_renounce.2.1 ML_renounce.2.2.1 ML_renounce.2.2.2 HL_renounce) yL_renounce d bc bs [(2, 0), (0, g), (0, v), (2, 224)] nN h Q := by
  refine s_enterH (M := ML_renounce) pn_L rfl (Nat.le_of_ble_eq_true rfl) (L := [(2, _), (0, _), (0, _), (2, _), (9, _)]) rfl ?_
  refine s_aload_n dL_renounce_0 rfl ?_
  refine s_iconst dL_renounce_1 ?_
  refine s_aload_n dL_renounce_2 rfl ?_
  refine s_iload_n dL_renounce_3 rfl ?_
  refine s_iload_n dL_renounce_4 rfl ?_
  refine e_callVH (d' := d - 1) (bc' := bc) (bs' := bs) (as := [_, _]) (EX := EX_ Q [("java/lang/IndexOutOfBoundsException", 1)]) dL_renounce_5 vf_L_49 (dd_ (by omega) (by decide)) ⟨Nat.le_refl _, Nat.le_refl _⟩ rfl rfl (Nat.le_of_ble_eq_true rfl) kl_6 rfl io_0 ?_ ?_
  · refine c_X8_renounce (by omega) (by omega) (by omega) C (by assumption) (by assumption) (fun a1 a2 h1 C1 f1 => ?_) (fun a1 h1 C1 f1 => ?_)
    · have k9 := k
      unfold op_renounce at k9
      rw [if_pos (by first | assumption | omega | exact ⟨a1, a2⟩)] at k9
      have A01 : (b01 (¬ z 1 (44 + g) = 0)) = 0 ∨ (b01 (¬ z 1 (44 + g) = 0)) = 1 := by first | exact b01_or _ | (unfold zitself; exact b01_or _)
      refine s_if_eq (tgt := 15) dL_renounce_8 (by decide) ⟨by omega, by omega⟩ (fun c1 => ?_) (fun c1 => ?_)
      · have e1 : (0 : Int) = i3_ ((b01 (¬ z 1 (44 + g) = 0))) := by rw [c1]; decide
        refine s_lconstz (z := 0) dL_renounce_15 rfl ?_
        refine s_lastoreG dL_renounce_16 io_224 (by decide) (by decide) C1.1 ⟨by decide, by decide⟩ (fun hG2 => ?_)
        refine s_goto (tgt := 24) dL_renounce_17 (by decide) ?_
        refine s_iconst dL_renounce_24 ?_
        refine s_ireturn dL_renounce_25 rfl ?_
        exact k9 _ (cr_put C1 hG2) (b5_put (b5_lo B (fun y => f1 195 y (by omega)))) (fl_put (fun x y a => f1 x y (by omega)) _) (fun _ => by rw [hs_eq]; exact e1)
      · have e1 : (1 : Int) = i3_ ((b01 (¬ z 1 (44 + g) = 0))) := by rw [show (b01 (¬ z 1 (44 + g) = 0)) = 1 by omega]; decide
        refine s_lconstz (z := 1) dL_renounce_11 rfl ?_
        refine s_goto (tgt := 16) dL_renounce_12 (by decide) ?_
        refine s_lastoreG dL_renounce_16 io_224 (by decide) (by decide) C1.1 ⟨by decide, by decide⟩ (fun hG2 => ?_)
        refine s_goto (tgt := 24) dL_renounce_17 (by decide) ?_
        refine s_iconst dL_renounce_24 ?_
        refine s_ireturn dL_renounce_25 rfl ?_
        exact k9 _ (cr_put C1 hG2) (b5_put (b5_lo B (fun y => f1 195 y (by omega)))) (fl_put (fun x y a => f1 x y (by omega)) _) (fun _ => by rw [hs_eq]; exact e1)
    · have k9 := k
      unfold op_renounce at k9
      rw [if_neg (by first | omega | assumption | (intro q; exact absurd q (by assumption)))] at k9
      exact ⟨rfl, 1, by simp [vy_X], k9 h1 C1 (b5_lo B (fun y => f1 195 y (by omega))) (fl_id (fun x y a => f1 x y (by omega))) (fun q => absurd (show (1 : Int) = 0 from q) (by decide))⟩
  · rintro E9 N' h1 ⟨rfl, K, hm, hq⟩
    simp only [List.mem_cons, List.not_mem_nil, or_false, Prod.mk.injEq] at hm
    obtain ⟨rfl, rfl⟩ := hm
    · refine ⟨20, 4, 2, ⟨[], (0, 17, 20, 19), [], _, rfl, fun z hz => absurd hz List.not_mem_nil, by decide, by decide, by decide, kl_L_19, ka_L_19, rfl⟩, Or.inr ⟨rfl, dL_renounce_20⟩, by decide, rfl, ?_⟩
      refine s_iconst dL_renounce_22 ?_
      exact s_ireturn dL_renounce_23 rfl hq
abbrev ML_set : PM := (RL, cL_set, 5, (some .int))
abbrev HL_set : List (Nat × Nat × Nat × Nat) := [(0, 10, 13, 25), (0, 10, 17, 13)]
theorem sx_set : SX_ RL 173 yL_set ML_set HL_set 4 := ⟨tb_in 122 (by decide +kernel) (by decide +kernel), tb_in 1195 (by decide +kernel) (by decide +kernel), ⟨by decide +kernel, by decide +kernel⟩, np_len (by decide +kernel), tb_in 1193 (by decide +kernel) (by decide +kernel), tb_in 1194 (by decide +kernel) (by decide +kernel)⟩
set_option maxRecDepth 100000 in
set_option maxHeartbeats 4000000 in
theorem w_set {t v : Int} (hd : 15 ≤ d) (hbc : 700 ≤ bc) (hbs : 1400 ≤ bs) (C : CR_ h z) (B : B5_ h) (ht : inI t) (hv : inI v) (k : MKC_ Q h (op_set z t v).2.2 (op_set z t v).1 (op_set z t v).2.1) : CW_ (.codeWith yL_set ML_set.2.1 ML_set.2.2.1 ML_set.2.2.2 HL_set) yL_set d bc bs [(2, 0), (0, t), (0, v), (2, 224)] nN h Q := by
  refine s_enterH (M := ML_set) pn_L rfl (Nat.le_of_ble_eq_true rfl) (L := [(2, _), (0, _), (0, _), (2, _), (9, _)]) rfl ?_
  refine s_aload_n dL_set_0 rfl ?_
  refine s_iconst dL_set_1 ?_
  refine s_aload_n dL_set_2 rfl ?_
  refine s_iload_n dL_set_3 rfl ?_
  refine s_iload_n dL_set_4 rfl ?_
  refine e_callVH (d' := d - 1) (bc' := bc) (bs' := bs) (as := [_, _]) (EX := EX_ Q [("java/util/NoSuchElementException", 1), ("java/lang/IllegalArgumentException", 2)]) dL_set_5 vf_L_53 (dd_ (by omega) (by decide)) ⟨Nat.le_refl _, Nat.le_refl _⟩ rfl rfl (Nat.le_of_ble_eq_true rfl) kl_6 rfl io_0 ?_ ?_
  · refine c_X8_set (by omega) (by omega) (by omega) C (by assumption) (by assumption) (fun a1 a2 a3 a4 h1 C1 f1 => ?_) (fun a1 h1 C1 f1 => ?_) (fun a1 a2 a3 h1 C1 f1 => ?_)
    · have k9 := k
      unfold op_set at k9
      rw [if_pos (by first | assumption | omega | exact ⟨a1, a2, a3, a4⟩)] at k9
      refine s_i2lW dL_set_8 ?_
      refine s_lastoreG dL_set_9 io_224 (by decide) (by decide) C1.1 (i3_in _) (fun hG2 => ?_)
      refine s_goto (tgt := 21) dL_set_10 (by decide) ?_
      refine s_iconst dL_set_21 ?_
      refine s_ireturn dL_set_22 rfl ?_
      exact k9 _ (cr_put C1 hG2) (b5_put (b5_lo B (fun y => f1 195 y (by omega)))) (fl_put (fun x y a => f1 x y (by omega)) _) (fun _ => hs_eq _ _ _ _)
    · have k9 := k
      unfold op_set at k9
      rw [if_neg (by first | omega | assumption | (intro q; exact absurd q (by assumption))), if_pos (by first | assumption | omega | exact ⟨a1⟩)] at k9
      exact ⟨rfl, 1, by simp [vy_X], k9 h1 C1 (b5_lo B (fun y => f1 195 y (by omega))) (fl_id (fun x y a => f1 x y (by omega))) (fun q => absurd (show (1 : Int) = 0 from q) (by decide))⟩
    · have k9 := k
      unfold op_set at k9
      rw [if_neg (by first | omega | assumption | (intro q; exact absurd q (by assumption))), if_neg (by first | omega | assumption | (intro q; exact absurd q (by assumption)))] at k9
      exact ⟨rfl, 2, by simp [vy_X], k9 h1 C1 (b5_lo B (fun y => f1 195 y (by omega))) (fl_id (fun x y a => f1 x y (by omega))) (fun q => absurd (show (2 : Int) = 0 from q) (by decide))⟩
  · rintro E9 N' h1 ⟨rfl, K, hm, hq⟩
    simp only [List.mem_cons, List.not_mem_nil, or_false, Prod.mk.injEq] at hm
    rcases hm with ⟨rfl, rfl⟩ | ⟨rfl, rfl⟩
    · refine ⟨13, 4, 2, ⟨[], (0, 10, 13, 25), [(0, 10, 17, 13)], _, rfl, fun z hz => absurd hz List.not_mem_nil, by decide, by decide, by decide, kl_L_25, ka_L_25, rfl⟩, Or.inr ⟨rfl, dL_set_13⟩, by decide, rfl, ?_⟩
      refine s_iconst dL_set_15 ?_
      exact s_ireturn dL_set_16 rfl hq
    · refine ⟨17, 4, 2, ⟨[(0, 10, 13, 25)], (0, 10, 17, 13), [], _, rfl, fun z hz => by
        simp only [List.mem_cons, List.not_mem_nil, or_false] at hz
        subst hz
        exact ⟨by decide, _, kl_L_25, by simp [kxn_]⟩, by decide, by decide, by decide, kl_L_13, ka_L_13, rfl⟩, Or.inr ⟨rfl, dL_set_17⟩, by decide, rfl, ?_⟩
      refine s_iconst dL_set_19 ?_
      exact s_ireturn dL_set_20 rfl hq
abbrev ML_estate : PM := (RL, cL_estate, 4, (some .int))
abbrev HL_estate : List (Nat × Nat × Nat × Nat) := [(0, 9, 12, 25)]
theorem sx_estate : SX_ RL 180 yL_estate ML_estate HL_estate 3 := ⟨tb_in 122 (by decide +kernel) (by decide +kernel), tb_in 1206 (by decide +kernel) (by decide +kernel), ⟨by decide +kernel, by decide +kernel⟩, np_len (by decide +kernel), tb_in 1204 (by decide +kernel) (by decide +kernel), tb_in 1205 (by decide +kernel) (by decide +kernel)⟩
set_option maxRecDepth 100000 in
set_option maxHeartbeats 4000000 in
theorem w_estate {v : Int} (hd : 15 ≤ d) (hbc : 700 ≤ bc) (hbs : 1400 ≤ bs) (C : CR_ h z) (B : B5_ h) (hv : inI v) (k : MKC_ Q h (op_estate z v).2.2 (op_estate z v).1 (op_estate z v).2.1) : CW_ (.codeWith yL_estate ML_estate.2.1 ML_estate.2.2.1 ML_estate.2.2.2 HL_estate) yL_estate d bc bs [(2, 0), (0, v), (2, 224)] nN h Q := by
  refine s_enterH (M := ML_estate) pn_L rfl (Nat.le_of_ble_eq_true rfl) (L := [(2, _), (0, _), (2, _), (9, _)]) rfl ?_
  refine s_aload_n dL_estate_0 rfl ?_
  refine s_iconst dL_estate_1 ?_
  refine s_aload_n dL_estate_2 rfl ?_
  refine s_iload_n dL_estate_3 rfl ?_
  refine e_callVH (d' := d - 1) (bc' := bc) (bs' := bs) (as := [_]) (EX := EX_ Q [("java/util/NoSuchElementException", 1)]) dL_estate_4 vf_L_56 (dd_ (by omega) (by decide)) ⟨Nat.le_refl _, Nat.le_refl _⟩ rfl rfl (Nat.le_of_ble_eq_true rfl) kl_6 rfl io_0 ?_ ?_
  · refine c_X8_estate (by omega) (by omega) (by omega) C (by assumption) (fun a1 a2 h1 C1 f1 => ?_) (fun a1 h1 C1 f1 => ?_)
    · have k9 := k
      unfold op_estate at k9
      rw [if_pos (by first | assumption | omega | exact ⟨a1, a2⟩)] at k9
      refine s_i2lW dL_estate_7 ?_
      refine s_lastoreG dL_estate_8 io_224 (by decide) (by decide) C1.1 (i3_in _) (fun hG2 => ?_)
      refine s_goto (tgt := 15) dL_estate_9 (by decide) ?_
      refine s_iconst dL_estate_15 ?_
      refine s_ireturn dL_estate_16 rfl ?_
      exact k9 _ (cr_put C1 hG2) (b5_put (b5_lo B (fun y => f1 195 y (by omega)))) (fl_put (fun x y a => f1 x y (by omega)) _) (fun _ => hs_eq _ _ _ _)
    · have k9 := k
      unfold op_estate at k9
      rw [if_neg (by first | omega | assumption | (intro q; exact absurd q (by assumption)))] at k9
      exact ⟨rfl, 1, by simp [vy_X], k9 h1 C1 (b5_lo B (fun y => f1 195 y (by omega))) (fl_id (fun x y a => f1 x y (by omega))) (fun q => absurd (show (1 : Int) = 0 from q) (by decide))⟩
  · rintro E9 N' h1 ⟨rfl, K, hm, hq⟩
    simp only [List.mem_cons, List.not_mem_nil, or_false, Prod.mk.injEq] at hm
    obtain ⟨rfl, rfl⟩ := hm
    · refine ⟨12, 3, 1, ⟨[], (0, 9, 12, 25), [], _, rfl, fun z hz => absurd hz List.not_mem_nil, by decide, by decide, by decide, kl_L_25, ka_L_25, rfl⟩, Or.inl ⟨3, rfl, rfl, dL_estate_12⟩, by decide, rfl, ?_⟩
      refine s_iconst dL_estate_13 ?_
      exact s_ireturn dL_estate_14 rfl hq
abbrev ML_due : PM := (RL, cL_due, 5, (some .int))
abbrev HL_due : List (Nat × Nat × Nat × Nat) := [(0, 10, 13, 19), (0, 10, 17, 13)]
theorem sx_due : SX_ RL 183 yL_due ML_due HL_due 4 := ⟨tb_in 122 (by decide +kernel) (by decide +kernel), tb_in 1215 (by decide +kernel) (by decide +kernel), ⟨by decide +kernel, by decide +kernel⟩, np_len (by decide +kernel), tb_in 1213 (by decide +kernel) (by decide +kernel), tb_in 1214 (by decide +kernel) (by decide +kernel)⟩
set_option maxRecDepth 100000 in
set_option maxHeartbeats 4000000 in
theorem w_due {g c : Int} (hd : 15 ≤ d) (hbc : 700 ≤ bc) (hbs : 1400 ≤ bs) (C : CR_ h z) (B : B5_ h) (hg : inI g) (hc : inI c) (k : MKC_ Q h (op_due z g c).2.2 (op_due z g c).1 (op_due z g c).2.1) : CW_ (.codeWith yL_due ML_due.2.1 ML_due.2.2.1 ML_due.2.2.2 HL_due) yL_due d bc bs [(2, 0), (0, g), (0, c), (2, 224)] nN h Q := by
  refine s_enterH (M := ML_due) pn_L rfl (Nat.le_of_ble_eq_true rfl) (L := [(2, _), (0, _), (0, _), (2, _), (9, _)]) rfl ?_
  refine s_aload_n dL_due_0 rfl ?_
  refine s_iconst dL_due_1 ?_
  refine s_aload_n dL_due_2 rfl ?_
  refine s_iload_n dL_due_3 rfl ?_
  refine s_iload_n dL_due_4 rfl ?_
  refine e_callVH (d' := d - 1) (bc' := bc) (bs' := bs) (as := [_, _]) (EX := EX_ Q [("java/lang/IndexOutOfBoundsException", 1), ("java/lang/IllegalArgumentException", 2)]) dL_due_5 vf_L_59 (dd_ (by omega) (by decide)) ⟨Nat.le_refl _, Nat.le_refl _⟩ rfl rfl (Nat.le_of_ble_eq_true rfl) kl_6 rfl io_0 ?_ ?_
  · refine c_X8_due (by omega) (by omega) (by omega) C (by assumption) (by assumption) (fun a1 a2 a3 a4 h1 C1 f1 => ?_) (fun a1 h1 C1 f1 => ?_) (fun a1 a2 a3 h1 C1 f1 => ?_)
    · have k9 := k
      unfold op_due at k9
      rw [if_pos (by first | assumption | omega | exact ⟨a1, a2, a3, a4⟩)] at k9
      refine s_i2lW dL_due_8 ?_
      refine s_lastoreG dL_due_9 io_224 (by decide) (by decide) C1.1 (i3_in _) (fun hG2 => ?_)
      refine s_goto (tgt := 21) dL_due_10 (by decide) ?_
      refine s_iconst dL_due_21 ?_
      refine s_ireturn dL_due_22 rfl ?_
      exact k9 _ (cr_put C1 hG2) (b5_put (b5_lo B (fun y => f1 195 y (by omega)))) (fl_put (fun x y a => f1 x y (by omega)) _) (fun _ => hs_eq _ _ _ _)
    · have k9 := k
      unfold op_due at k9
      rw [if_neg (by first | omega | assumption | (intro q; exact absurd q (by assumption))), if_pos (by first | assumption | omega | exact ⟨a1⟩)] at k9
      exact ⟨rfl, 1, by simp [vy_X], k9 h1 C1 (b5_lo B (fun y => f1 195 y (by omega))) (fl_id (fun x y a => f1 x y (by omega))) (fun q => absurd (show (1 : Int) = 0 from q) (by decide))⟩
    · have k9 := k
      unfold op_due at k9
      rw [if_neg (by first | omega | assumption | (intro q; exact absurd q (by assumption))), if_neg (by first | omega | assumption | (intro q; exact absurd q (by assumption)))] at k9
      exact ⟨rfl, 2, by simp [vy_X], k9 h1 C1 (b5_lo B (fun y => f1 195 y (by omega))) (fl_id (fun x y a => f1 x y (by omega))) (fun q => absurd (show (2 : Int) = 0 from q) (by decide))⟩
  · rintro E9 N' h1 ⟨rfl, K, hm, hq⟩
    simp only [List.mem_cons, List.not_mem_nil, or_false, Prod.mk.injEq] at hm
    rcases hm with ⟨rfl, rfl⟩ | ⟨rfl, rfl⟩
    · refine ⟨13, 4, 2, ⟨[], (0, 10, 13, 19), [(0, 10, 17, 13)], _, rfl, fun z hz => absurd hz List.not_mem_nil, by decide, by decide, by decide, kl_L_19, ka_L_19, rfl⟩, Or.inr ⟨rfl, dL_due_13⟩, by decide, rfl, ?_⟩
      refine s_iconst dL_due_15 ?_
      exact s_ireturn dL_due_16 rfl hq
    · refine ⟨17, 4, 2, ⟨[(0, 10, 13, 19)], (0, 10, 17, 13), [], _, rfl, fun z hz => by
        simp only [List.mem_cons, List.not_mem_nil, or_false] at hz
        subst hz
        exact ⟨by decide, _, kl_L_19, by simp [kxn_]⟩, by decide, by decide, by decide, kl_L_13, ka_L_13, rfl⟩, Or.inr ⟨rfl, dL_due_17⟩, by decide, rfl, ?_⟩
      refine s_iconst dL_due_19 ?_
      exact s_ireturn dL_due_20 rfl hq
abbrev ML_gets : PM := (RL, cL_gets, 5, (some .int))
abbrev HL_gets : List (Nat × Nat × Nat × Nat) := [(0, 10, 13, 19), (0, 10, 17, 13)]
theorem sx_gets : SX_ RL 186 yL_gets ML_gets HL_gets 4 := ⟨tb_in 122 (by decide +kernel) (by decide +kernel), tb_in 1227 (by decide +kernel) (by decide +kernel), ⟨by decide +kernel, by decide +kernel⟩, np_len (by decide +kernel), tb_in 1225 (by decide +kernel) (by decide +kernel), tb_in 1226 (by decide +kernel) (by decide +kernel)⟩
set_option maxRecDepth 100000 in
set_option maxHeartbeats 4000000 in
theorem w_gets {g c : Int} (hd : 15 ≤ d) (hbc : 700 ≤ bc) (hbs : 1400 ≤ bs) (C : CR_ h z) (B : B5_ h) (hg : inI g) (hc : inI c) (k : MKC_ Q h (op_gets z g c).2.2 (op_gets z g c).1 (op_gets z g c).2.1) : CW_ (.codeWith yL_gets ML_gets.2.1 ML_gets.2.2.1 ML_gets.2.2.2 HL_gets) yL_gets d bc bs [(2, 0), (0, g), (0, c), (2, 224)] nN h Q := by
  refine s_enterH (M := ML_gets) pn_L rfl (Nat.le_of_ble_eq_true rfl) (L := [(2, _), (0, _), (0, _), (2, _), (9, _)]) rfl ?_
  refine s_aload_n dL_gets_0 rfl ?_
  refine s_iconst dL_gets_1 ?_
  refine s_aload_n dL_gets_2 rfl ?_
  refine s_iload_n dL_gets_3 rfl ?_
  refine s_iload_n dL_gets_4 rfl ?_
  refine e_callVH (d' := d - 1) (bc' := bc) (bs' := bs) (as := [_, _]) (EX := EX_ Q [("java/lang/IndexOutOfBoundsException", 1), ("java/lang/IllegalArgumentException", 2)]) dL_gets_5 vf_L_62 (dd_ (by omega) (by decide)) ⟨Nat.le_refl _, Nat.le_refl _⟩ rfl rfl (Nat.le_of_ble_eq_true rfl) kl_6 rfl io_0 ?_ ?_
  · refine c_X8_gets (by omega) (by omega) (by omega) C (by assumption) (by assumption) (fun a1 a2 a3 a4 h1 C1 f1 => ?_) (fun a1 h1 C1 f1 => ?_) (fun a1 a2 a3 h1 C1 f1 => ?_)
    · have k9 := k
      unfold op_gets at k9
      rw [if_pos (by first | assumption | omega | exact ⟨a1, a2, a3, a4⟩)] at k9
      refine s_i2lW dL_gets_8 ?_
      refine s_lastoreG dL_gets_9 io_224 (by decide) (by decide) C1.1 (i3_in _) (fun hG2 => ?_)
      refine s_goto (tgt := 21) dL_gets_10 (by decide) ?_
      refine s_iconst dL_gets_21 ?_
      refine s_ireturn dL_gets_22 rfl ?_
      exact k9 _ (cr_put C1 hG2) (b5_put (b5_lo B (fun y => f1 195 y (by omega)))) (fl_put (fun x y a => f1 x y (by omega)) _) (fun _ => hs_eq _ _ _ _)
    · have k9 := k
      unfold op_gets at k9
      rw [if_neg (by first | omega | assumption | (intro q; exact absurd q (by assumption))), if_pos (by first | assumption | omega | exact ⟨a1⟩)] at k9
      exact ⟨rfl, 1, by simp [vy_X], k9 h1 C1 (b5_lo B (fun y => f1 195 y (by omega))) (fl_id (fun x y a => f1 x y (by omega))) (fun q => absurd (show (1 : Int) = 0 from q) (by decide))⟩
    · have k9 := k
      unfold op_gets at k9
      rw [if_neg (by first | omega | assumption | (intro q; exact absurd q (by assumption))), if_neg (by first | omega | assumption | (intro q; exact absurd q (by assumption)))] at k9
      exact ⟨rfl, 2, by simp [vy_X], k9 h1 C1 (b5_lo B (fun y => f1 195 y (by omega))) (fl_id (fun x y a => f1 x y (by omega))) (fun q => absurd (show (2 : Int) = 0 from q) (by decide))⟩
  · rintro E9 N' h1 ⟨rfl, K, hm, hq⟩
    simp only [List.mem_cons, List.not_mem_nil, or_false, Prod.mk.injEq] at hm
    rcases hm with ⟨rfl, rfl⟩ | ⟨rfl, rfl⟩
    · refine ⟨13, 4, 2, ⟨[], (0, 10, 13, 19), [(0, 10, 17, 13)], _, rfl, fun z hz => absurd hz List.not_mem_nil, by decide, by decide, by decide, kl_L_19, ka_L_19, rfl⟩, Or.inr ⟨rfl, dL_gets_13⟩, by decide, rfl, ?_⟩
      refine s_iconst dL_gets_15 ?_
      exact s_ireturn dL_gets_16 rfl hq
    · refine ⟨17, 4, 2, ⟨[(0, 10, 13, 19)], (0, 10, 17, 13), [], _, rfl, fun z hz => by
        simp only [List.mem_cons, List.not_mem_nil, or_false] at hz
        subst hz
        exact ⟨by decide, _, kl_L_19, by simp [kxn_]⟩, by decide, by decide, by decide, kl_L_13, ka_L_13, rfl⟩, Or.inr ⟨rfl, dL_gets_17⟩, by decide, rfl, ?_⟩
      refine s_iconst dL_gets_19 ?_
      exact s_ireturn dL_gets_20 rfl hq
abbrev ML_classed : PM := (RL, cL_classed, 5, (some .int))
abbrev HL_classed : List (Nat × Nat × Nat × Nat) := [(0, 10, 13, 13), (0, 10, 17, 25)]
theorem sx_classed : SX_ RL 189 yL_classed ML_classed HL_classed 4 := ⟨tb_in 122 (by decide +kernel) (by decide +kernel), tb_in 1235 (by decide +kernel) (by decide +kernel), ⟨by decide +kernel, by decide +kernel⟩, np_len (by decide +kernel), tb_in 1233 (by decide +kernel) (by decide +kernel), tb_in 1234 (by decide +kernel) (by decide +kernel)⟩
set_option maxRecDepth 100000 in
set_option maxHeartbeats 4000000 in
theorem w_classed {c v : Int} (hd : 15 ≤ d) (hbc : 700 ≤ bc) (hbs : 1400 ≤ bs) (C : CR_ h z) (B : B5_ h) (hc : inI c) (hv : inI v) (k : MKC_ Q h (op_classed z c v).2.2 (op_classed z c v).1 (op_classed z c v).2.1) : CW_ (.codeWith yL_classed ML_classed.2.1 ML_classed.2.2.1 ML_classed.2.2.2 HL_classed) yL_classed d bc bs [(2, 0), (0, c), (0, v), (2, 224)] nN h Q := by
  refine s_enterH (M := ML_classed) pn_L rfl (Nat.le_of_ble_eq_true rfl) (L := [(2, _), (0, _), (0, _), (2, _), (9, _)]) rfl ?_
  refine s_aload_n dL_classed_0 rfl ?_
  refine s_iconst dL_classed_1 ?_
  refine s_aload_n dL_classed_2 rfl ?_
  refine s_iload_n dL_classed_3 rfl ?_
  refine s_iload_n dL_classed_4 rfl ?_
  refine e_callVH (d' := d - 1) (bc' := bc) (bs' := bs) (as := [_, _]) (EX := EX_ Q [("java/lang/IllegalArgumentException", 1), ("java/util/NoSuchElementException", 2)]) dL_classed_5 vf_L_65 (dd_ (by omega) (by decide)) ⟨Nat.le_refl _, Nat.le_refl _⟩ rfl rfl (Nat.le_of_ble_eq_true rfl) kl_6 rfl io_0 ?_ ?_
  · refine c_X8_classed (by omega) (by omega) (by omega) C (by assumption) (by assumption) (fun a1 a2 a3 a4 h1 C1 f1 => ?_) (fun a1 h1 C1 f1 => ?_) (fun a1 a2 a3 h1 C1 f1 => ?_)
    · have k9 := k
      unfold op_classed at k9
      rw [if_pos (by first | assumption | omega | exact ⟨a1, a2, a3, a4⟩)] at k9
      refine s_i2lW dL_classed_8 ?_
      refine s_lastoreG dL_classed_9 io_224 (by decide) (by decide) C1.1 (i3_in _) (fun hG2 => ?_)
      refine s_goto (tgt := 21) dL_classed_10 (by decide) ?_
      refine s_iconst dL_classed_21 ?_
      refine s_ireturn dL_classed_22 rfl ?_
      exact k9 _ (cr_put C1 hG2) (b5_put (b5_lo B (fun y => f1 195 y (by omega)))) (fl_put (fun x y a => f1 x y (by omega)) _) (fun _ => hs_eq _ _ _ _)
    · have k9 := k
      unfold op_classed at k9
      rw [if_neg (by first | omega | assumption | (intro q; exact absurd q (by assumption))), if_pos (by first | assumption | omega | exact ⟨a1⟩)] at k9
      exact ⟨rfl, 1, by simp [vy_X], k9 h1 C1 (b5_lo B (fun y => f1 195 y (by omega))) (fl_id (fun x y a => f1 x y (by omega))) (fun q => absurd (show (1 : Int) = 0 from q) (by decide))⟩
    · have k9 := k
      unfold op_classed at k9
      rw [if_neg (by first | omega | assumption | (intro q; exact absurd q (by assumption))), if_neg (by first | omega | assumption | (intro q; exact absurd q (by assumption)))] at k9
      exact ⟨rfl, 2, by simp [vy_X], k9 h1 C1 (b5_lo B (fun y => f1 195 y (by omega))) (fl_id (fun x y a => f1 x y (by omega))) (fun q => absurd (show (2 : Int) = 0 from q) (by decide))⟩
  · rintro E9 N' h1 ⟨rfl, K, hm, hq⟩
    simp only [List.mem_cons, List.not_mem_nil, or_false, Prod.mk.injEq] at hm
    rcases hm with ⟨rfl, rfl⟩ | ⟨rfl, rfl⟩
    · refine ⟨13, 4, 2, ⟨[], (0, 10, 13, 13), [(0, 10, 17, 25)], _, rfl, fun z hz => absurd hz List.not_mem_nil, by decide, by decide, by decide, kl_L_13, ka_L_13, rfl⟩, Or.inr ⟨rfl, dL_classed_13⟩, by decide, rfl, ?_⟩
      refine s_iconst dL_classed_15 ?_
      exact s_ireturn dL_classed_16 rfl hq
    · refine ⟨17, 4, 2, ⟨[(0, 10, 13, 13)], (0, 10, 17, 25), [], _, rfl, fun z hz => by
        simp only [List.mem_cons, List.not_mem_nil, or_false] at hz
        subst hz
        exact ⟨by decide, _, kl_L_13, by simp [kxn_]⟩, by decide, by decide, by decide, kl_L_25, ka_L_25, rfl⟩, Or.inr ⟨rfl, dL_classed_17⟩, by decide, rfl, ?_⟩
      refine s_iconst dL_classed_19 ?_
      exact s_ireturn dL_classed_20 rfl hq
abbrev ML_itself : PM := (RL, cL_itself, 4, (some .int))
abbrev HL_itself : List (Nat × Nat × Nat × Nat) := [(0, 16, 19, 19), (0, 16, 22, 13)]
theorem sx_itself : SX_ RL 192 yL_itself ML_itself HL_itself 3 := ⟨tb_in 122 (by decide +kernel) (by decide +kernel), tb_in 1252 (by decide +kernel) (by decide +kernel), ⟨by decide +kernel, by decide +kernel⟩, np_len (by decide +kernel), tb_in 1250 (by decide +kernel) (by decide +kernel), tb_in 1251 (by decide +kernel) (by decide +kernel)⟩
set_option maxRecDepth 100000 in
set_option maxHeartbeats 4000000 in
theorem w_itself {g : Int} (hd : 15 ≤ d) (hbc : 700 ≤ bc) (hbs : 1400 ≤ bs) (C : CR_ h z) (B : B5_ h) (hg : inI g) (k : MKC_ Q h (op_itself z g).2.2 (op_itself z g).1 (op_itself z g).2.1) : CW_ (.codeWith yL_itself ML_itself.2.1 ML_itself.2.2.1 ML_itself.2.2.2 HL_itself) yL_itself d bc bs [(2, 0), (0, g), (2, 224)] nN h Q := by
  refine s_enterH (M := ML_itself) pn_L rfl (Nat.le_of_ble_eq_true rfl) (L := [(2, _), (0, _), (2, _), (9, _)]) rfl ?_
  refine s_aload_n dL_itself_0 rfl ?_
  refine s_iconst dL_itself_1 ?_
  refine s_aload_n dL_itself_2 rfl ?_
  refine s_iload_n dL_itself_3 rfl ?_
  refine e_callVH (d' := d - 1) (bc' := bc) (bs' := bs) (as := [_]) (EX := EX_ Q [("java/lang/IndexOutOfBoundsException", 1), ("java/lang/IllegalArgumentException", 2)]) dL_itself_4 vf_L_68 (dd_ (by omega) (by decide)) ⟨Nat.le_refl _, Nat.le_refl _⟩ rfl rfl (Nat.le_of_ble_eq_true rfl) kl_6 rfl io_0 ?_ ?_
  · refine c_X8_itself (by omega) (by omega) (by omega) C (by assumption) (fun a1 a2 a3 h1 C1 f1 => ?_) (fun a1 h1 C1 f1 => ?_) (fun a1 a2 a3 h1 C1 f1 => ?_)
    · have k9 := k
      unfold op_itself at k9
      rw [if_pos (by first | assumption | omega | exact ⟨a1, a2, a3⟩)] at k9
      have A01 : (zitself z g) = 0 ∨ (zitself z g) = 1 := by first | exact b01_or _ | (unfold zitself; exact b01_or _)
      refine s_if_eq (tgt := 14) dL_itself_7 (by decide) ⟨by omega, by omega⟩ (fun c1 => ?_) (fun c1 => ?_)
      · have e1 : (0 : Int) = i3_ ((zitself z g)) := by rw [c1]; decide
        refine s_lconstz (z := 0) dL_itself_14 rfl ?_
        refine s_lastoreG dL_itself_15 io_224 (by decide) (by decide) C1.1 ⟨by decide, by decide⟩ (fun hG2 => ?_)
        refine s_goto (tgt := 25) dL_itself_16 (by decide) ?_
        refine s_iconst dL_itself_25 ?_
        refine s_ireturn dL_itself_26 rfl ?_
        exact k9 _ (cr_put C1 hG2) (b5_put (b5_lo B (fun y => f1 195 y (by omega)))) (fl_put (fun x y a => f1 x y (by omega)) _) (fun _ => by rw [hs_eq]; exact e1)
      · have e1 : (1 : Int) = i3_ ((zitself z g)) := by rw [show (zitself z g) = 1 by omega]; decide
        refine s_lconstz (z := 1) dL_itself_10 rfl ?_
        refine s_goto (tgt := 15) dL_itself_11 (by decide) ?_
        refine s_lastoreG dL_itself_15 io_224 (by decide) (by decide) C1.1 ⟨by decide, by decide⟩ (fun hG2 => ?_)
        refine s_goto (tgt := 25) dL_itself_16 (by decide) ?_
        refine s_iconst dL_itself_25 ?_
        refine s_ireturn dL_itself_26 rfl ?_
        exact k9 _ (cr_put C1 hG2) (b5_put (b5_lo B (fun y => f1 195 y (by omega)))) (fl_put (fun x y a => f1 x y (by omega)) _) (fun _ => by rw [hs_eq]; exact e1)
    · have k9 := k
      unfold op_itself at k9
      rw [if_neg (by first | omega | assumption | (intro q; exact absurd q (by assumption))), if_pos (by first | assumption | omega | exact ⟨a1⟩)] at k9
      exact ⟨rfl, 1, by simp [vy_X], k9 h1 C1 (b5_lo B (fun y => f1 195 y (by omega))) (fl_id (fun x y a => f1 x y (by omega))) (fun q => absurd (show (1 : Int) = 0 from q) (by decide))⟩
    · have k9 := k
      unfold op_itself at k9
      rw [if_neg (by first | omega | assumption | (intro q; exact absurd q (by assumption))), if_neg (by first | omega | assumption | (intro q; exact absurd q (by assumption)))] at k9
      exact ⟨rfl, 2, by simp [vy_X], k9 h1 C1 (b5_lo B (fun y => f1 195 y (by omega))) (fl_id (fun x y a => f1 x y (by omega))) (fun q => absurd (show (2 : Int) = 0 from q) (by decide))⟩
  · rintro E9 N' h1 ⟨rfl, K, hm, hq⟩
    simp only [List.mem_cons, List.not_mem_nil, or_false, Prod.mk.injEq] at hm
    rcases hm with ⟨rfl, rfl⟩ | ⟨rfl, rfl⟩
    · refine ⟨19, 3, 1, ⟨[], (0, 16, 19, 19), [(0, 16, 22, 13)], _, rfl, fun z hz => absurd hz List.not_mem_nil, by decide, by decide, by decide, kl_L_19, ka_L_19, rfl⟩, Or.inl ⟨3, rfl, rfl, dL_itself_19⟩, by decide, rfl, ?_⟩
      refine s_iconst dL_itself_20 ?_
      exact s_ireturn dL_itself_21 rfl hq
    · refine ⟨22, 3, 1, ⟨[(0, 16, 19, 19)], (0, 16, 22, 13), [], _, rfl, fun z hz => by
        simp only [List.mem_cons, List.not_mem_nil, or_false] at hz
        subst hz
        exact ⟨by decide, _, kl_L_19, by simp [kxn_]⟩, by decide, by decide, by decide, kl_L_13, ka_L_13, rfl⟩, Or.inl ⟨3, rfl, rfl, dL_itself_22⟩, by decide, rfl, ?_⟩
      refine s_iconst dL_itself_23 ?_
      exact s_ireturn dL_itself_24 rfl hq
abbrev ML_leastDebt : PM := (RL, cL_leastDebt, 4, (some .int))
abbrev HL_leastDebt : List (Nat × Nat × Nat × Nat) := [(0, 9, 12, 13)]
theorem sx_leastDebt : SX_ RL 195 yL_leastDebt ML_leastDebt HL_leastDebt 3 := ⟨tb_in 122 (by decide +kernel) (by decide +kernel), tb_in 1260 (by decide +kernel) (by decide +kernel), ⟨by decide +kernel, by decide +kernel⟩, np_len (by decide +kernel), tb_in 1258 (by decide +kernel) (by decide +kernel), tb_in 1259 (by decide +kernel) (by decide +kernel)⟩
set_option maxRecDepth 100000 in
set_option maxHeartbeats 4000000 in
theorem w_leastDebt {c : Int} (hd : 15 ≤ d) (hbc : 700 ≤ bc) (hbs : 1400 ≤ bs) (C : CR_ h z) (B : B5_ h) (hc : inI c) (k : MKC_ Q h (op_leastDebt z c).2.2 (op_leastDebt z c).1 (op_leastDebt z c).2.1) : CW_ (.codeWith yL_leastDebt ML_leastDebt.2.1 ML_leastDebt.2.2.1 ML_leastDebt.2.2.2 HL_leastDebt) yL_leastDebt d bc bs [(2, 0), (0, c), (2, 224)] nN h Q := by
  refine s_enterH (M := ML_leastDebt) pn_L rfl (Nat.le_of_ble_eq_true rfl) (L := [(2, _), (0, _), (2, _), (9, _)]) rfl ?_
  refine s_aload_n dL_leastDebt_0 rfl ?_
  refine s_iconst dL_leastDebt_1 ?_
  refine s_aload_n dL_leastDebt_2 rfl ?_
  refine s_iload_n dL_leastDebt_3 rfl ?_
  refine e_callVH (d' := d - 1) (bc' := bc) (bs' := bs) (as := [_]) (EX := EX_ Q [("java/lang/IllegalArgumentException", 1)]) dL_leastDebt_4 vf_L_72 (dd_ (by omega) (by decide)) ⟨Nat.le_refl _, Nat.le_refl _⟩ rfl rfl (Nat.le_of_ble_eq_true rfl) kl_6 rfl io_0 ?_ ?_
  · refine c_X8_leastDebt (by omega) (by omega) (by omega) C (by assumption) (fun a1 a2 h1 C1 f1 => ?_) (fun a1 h1 C1 f1 => ?_)
    · have k9 := k
      unfold op_leastDebt at k9
      rw [if_pos (by first | assumption | omega | exact ⟨a1, a2⟩)] at k9
      refine s_i2lW dL_leastDebt_7 ?_
      refine s_lastoreG dL_leastDebt_8 io_224 (by decide) (by decide) C1.1 (i3_in _) (fun hG2 => ?_)
      refine s_goto (tgt := 15) dL_leastDebt_9 (by decide) ?_
      refine s_iconst dL_leastDebt_15 ?_
      refine s_ireturn dL_leastDebt_16 rfl ?_
      exact k9 _ (cr_put C1 hG2) (b5_put (b5_lo B (fun y => f1 195 y (by omega)))) (fl_put (fun x y a => f1 x y (by omega)) _) (fun _ => hs_eq _ _ _ _)
    · have k9 := k
      unfold op_leastDebt at k9
      rw [if_neg (by first | omega | assumption | (intro q; exact absurd q (by assumption)))] at k9
      exact ⟨rfl, 1, by simp [vy_X], k9 h1 C1 (b5_lo B (fun y => f1 195 y (by omega))) (fl_id (fun x y a => f1 x y (by omega))) (fun q => absurd (show (1 : Int) = 0 from q) (by decide))⟩
  · rintro E9 N' h1 ⟨rfl, K, hm, hq⟩
    simp only [List.mem_cons, List.not_mem_nil, or_false, Prod.mk.injEq] at hm
    obtain ⟨rfl, rfl⟩ := hm
    · refine ⟨12, 3, 1, ⟨[], (0, 9, 12, 13), [], _, rfl, fun z hz => absurd hz List.not_mem_nil, by decide, by decide, by decide, kl_L_13, ka_L_13, rfl⟩, Or.inl ⟨3, rfl, rfl, dL_leastDebt_12⟩, by decide, rfl, ?_⟩
      refine s_iconst dL_leastDebt_13 ?_
      exact s_ireturn dL_leastDebt_14 rfl hq
abbrev ML_needed : PM := (RL, cL_needed, 4, (some .int))
abbrev HL_needed : List (Nat × Nat × Nat × Nat) := [(0, 9, 12, 13)]
theorem sx_needed : SX_ RL 198 yL_needed ML_needed HL_needed 3 := ⟨tb_in 122 (by decide +kernel) (by decide +kernel), tb_in 1271 (by decide +kernel) (by decide +kernel), ⟨by decide +kernel, by decide +kernel⟩, np_len (by decide +kernel), tb_in 1269 (by decide +kernel) (by decide +kernel), tb_in 1270 (by decide +kernel) (by decide +kernel)⟩
set_option maxRecDepth 100000 in
set_option maxHeartbeats 4000000 in
theorem w_needed {c : Int} (hd : 15 ≤ d) (hbc : 700 ≤ bc) (hbs : 1400 ≤ bs) (C : CR_ h z) (B : B5_ h) (hc : inI c) (k : MKC_ Q h (op_needed z c).2.2 (op_needed z c).1 (op_needed z c).2.1) : CW_ (.codeWith yL_needed ML_needed.2.1 ML_needed.2.2.1 ML_needed.2.2.2 HL_needed) yL_needed d bc bs [(2, 0), (0, c), (2, 224)] nN h Q := by
  refine s_enterH (M := ML_needed) pn_L rfl (Nat.le_of_ble_eq_true rfl) (L := [(2, _), (0, _), (2, _), (9, _)]) rfl ?_
  refine s_aload_n dL_needed_0 rfl ?_
  refine s_iconst dL_needed_1 ?_
  refine s_aload_n dL_needed_2 rfl ?_
  refine s_iload_n dL_needed_3 rfl ?_
  refine e_callVH (d' := d - 1) (bc' := bc) (bs' := bs) (as := [_]) (EX := EX_ Q [("java/lang/IllegalArgumentException", 1)]) dL_needed_4 vf_L_75 (dd_ (by omega) (by decide)) ⟨Nat.le_refl _, Nat.le_refl _⟩ rfl rfl (Nat.le_of_ble_eq_true rfl) kl_6 rfl io_0 ?_ ?_
  · refine c_X8_needed (by omega) (by omega) (by omega) C (by assumption) (fun a1 a2 h1 C1 f1 => ?_) (fun a1 h1 C1 f1 => ?_)
    · have k9 := k
      unfold op_needed at k9
      rw [if_pos (by first | assumption | omega | exact ⟨a1, a2⟩)] at k9
      refine s_i2lW dL_needed_7 ?_
      refine s_lastoreG dL_needed_8 io_224 (by decide) (by decide) C1.1 (i3_in _) (fun hG2 => ?_)
      refine s_goto (tgt := 15) dL_needed_9 (by decide) ?_
      refine s_iconst dL_needed_15 ?_
      refine s_ireturn dL_needed_16 rfl ?_
      exact k9 _ (cr_put C1 hG2) (b5_put (b5_lo B (fun y => f1 195 y (by omega)))) (fl_put (fun x y a => f1 x y (by omega)) _) (fun _ => hs_eq _ _ _ _)
    · have k9 := k
      unfold op_needed at k9
      rw [if_neg (by first | omega | assumption | (intro q; exact absurd q (by assumption)))] at k9
      exact ⟨rfl, 1, by simp [vy_X], k9 h1 C1 (b5_lo B (fun y => f1 195 y (by omega))) (fl_id (fun x y a => f1 x y (by omega))) (fun q => absurd (show (1 : Int) = 0 from q) (by decide))⟩
  · rintro E9 N' h1 ⟨rfl, K, hm, hq⟩
    simp only [List.mem_cons, List.not_mem_nil, or_false, Prod.mk.injEq] at hm
    obtain ⟨rfl, rfl⟩ := hm
    · refine ⟨12, 3, 1, ⟨[], (0, 9, 12, 13), [], _, rfl, fun z hz => absurd hz List.not_mem_nil, by decide, by decide, by decide, kl_L_13, ka_L_13, rfl⟩, Or.inl ⟨3, rfl, rfl, dL_needed_12⟩, by decide, rfl, ?_⟩
      refine s_iconst dL_needed_13 ?_
      exact s_ireturn dL_needed_14 rfl hq
abbrev ML_part : PM := (RL, cL_part, 4, (some .int))
abbrev HL_part : List (Nat × Nat × Nat × Nat) := [(0, 9, 12, 19)]
theorem sx_part : SX_ RL 201 yL_part ML_part HL_part 3 := ⟨tb_in 122 (by decide +kernel) (by decide +kernel), tb_in 1278 (by decide +kernel) (by decide +kernel), ⟨by decide +kernel, by decide +kernel⟩, np_len (by decide +kernel), tb_in 1276 (by decide +kernel) (by decide +kernel), tb_in 1277 (by decide +kernel) (by decide +kernel)⟩
set_option maxRecDepth 100000 in
set_option maxHeartbeats 4000000 in
theorem w_part {g : Int} (hd : 15 ≤ d) (hbc : 700 ≤ bc) (hbs : 1400 ≤ bs) (C : CR_ h z) (B : B5_ h) (hg : inI g) (k : MKC_ Q h (op_part z g).2.2 (op_part z g).1 (op_part z g).2.1) : CW_ (.codeWith yL_part ML_part.2.1 ML_part.2.2.1 ML_part.2.2.2 HL_part) yL_part d bc bs [(2, 0), (0, g), (2, 224)] nN h Q := by
  refine s_enterH (M := ML_part) pn_L rfl (Nat.le_of_ble_eq_true rfl) (L := [(2, _), (0, _), (2, _), (9, _)]) rfl ?_
  refine s_aload_n dL_part_0 rfl ?_
  refine s_iconst dL_part_1 ?_
  refine s_aload_n dL_part_2 rfl ?_
  refine s_iload_n dL_part_3 rfl ?_
  refine e_callVH (d' := d - 1) (bc' := bc) (bs' := bs) (as := [_]) (EX := EX_ Q [("java/lang/IndexOutOfBoundsException", 1)]) dL_part_4 vf_L_78 (dd_ (by omega) (by decide)) ⟨Nat.le_refl _, Nat.le_refl _⟩ rfl rfl (Nat.le_of_ble_eq_true rfl) kl_6 rfl io_0 ?_ ?_
  · refine c_X8_part (by omega) (by omega) (by omega) C (by assumption) (fun a1 a2 h1 C1 f1 => ?_) (fun a1 h1 C1 f1 => ?_)
    · have k9 := k
      unfold op_part at k9
      rw [if_pos (by first | assumption | omega | exact ⟨a1, a2⟩)] at k9
      refine s_i2lW dL_part_7 ?_
      refine s_lastoreG dL_part_8 io_224 (by decide) (by decide) C1.1 (i3_in _) (fun hG2 => ?_)
      refine s_goto (tgt := 15) dL_part_9 (by decide) ?_
      refine s_iconst dL_part_15 ?_
      refine s_ireturn dL_part_16 rfl ?_
      exact k9 _ (cr_put C1 hG2) (b5_put (b5_lo B (fun y => f1 195 y (by omega)))) (fl_put (fun x y a => f1 x y (by omega)) _) (fun _ => hs_eq _ _ _ _)
    · have k9 := k
      unfold op_part at k9
      rw [if_neg (by first | omega | assumption | (intro q; exact absurd q (by assumption)))] at k9
      exact ⟨rfl, 1, by simp [vy_X], k9 h1 C1 (b5_lo B (fun y => f1 195 y (by omega))) (fl_id (fun x y a => f1 x y (by omega))) (fun q => absurd (show (1 : Int) = 0 from q) (by decide))⟩
  · rintro E9 N' h1 ⟨rfl, K, hm, hq⟩
    simp only [List.mem_cons, List.not_mem_nil, or_false, Prod.mk.injEq] at hm
    obtain ⟨rfl, rfl⟩ := hm
    · refine ⟨12, 3, 1, ⟨[], (0, 9, 12, 19), [], _, rfl, fun z hz => absurd hz List.not_mem_nil, by decide, by decide, by decide, kl_L_19, ka_L_19, rfl⟩, Or.inl ⟨3, rfl, rfl, dL_part_12⟩, by decide, rfl, ?_⟩
      refine s_iconst dL_part_13 ?_
      exact s_ireturn dL_part_14 rfl hq
abbrev ML_left : PM := (RL, cL_left, 4, (some .int))
abbrev HL_left : List (Nat × Nat × Nat × Nat) := [(0, 9, 12, 19)]
theorem sx_left : SX_ RL 204 yL_left ML_left HL_left 3 := ⟨tb_in 122 (by decide +kernel) (by decide +kernel), tb_in 1289 (by decide +kernel) (by decide +kernel), ⟨by decide +kernel, by decide +kernel⟩, np_len (by decide +kernel), tb_in 1287 (by decide +kernel) (by decide +kernel), tb_in 1288 (by decide +kernel) (by decide +kernel)⟩
set_option maxRecDepth 100000 in
set_option maxHeartbeats 4000000 in
theorem w_left {t : Int} (hd : 15 ≤ d) (hbc : 700 ≤ bc) (hbs : 1400 ≤ bs) (C : CR_ h z) (B : B5_ h) (ht : inI t) (k : MKC_ Q h (op_left z t).2.2 (op_left z t).1 (op_left z t).2.1) : CW_ (.codeWith yL_left ML_left.2.1 ML_left.2.2.1 ML_left.2.2.2 HL_left) yL_left d bc bs [(2, 0), (0, t), (2, 224)] nN h Q := by
  refine s_enterH (M := ML_left) pn_L rfl (Nat.le_of_ble_eq_true rfl) (L := [(2, _), (0, _), (2, _), (9, _)]) rfl ?_
  refine s_aload_n dL_left_0 rfl ?_
  refine s_iconst dL_left_1 ?_
  refine s_aload_n dL_left_2 rfl ?_
  refine s_iload_n dL_left_3 rfl ?_
  refine e_callVH (d' := d - 1) (bc' := bc) (bs' := bs) (as := [_]) (EX := EX_ Q [("java/lang/IndexOutOfBoundsException", 1)]) dL_left_4 vf_L_81 (dd_ (by omega) (by decide)) ⟨Nat.le_refl _, Nat.le_refl _⟩ rfl rfl (Nat.le_of_ble_eq_true rfl) kl_6 rfl io_0 ?_ ?_
  · refine c_X8_left (by omega) (by omega) (by omega) C (by assumption) (fun a1 a2 h1 C1 f1 => ?_) (fun a1 h1 C1 f1 => ?_)
    · have k9 := k
      unfold op_left at k9
      rw [if_pos (by first | assumption | omega | exact ⟨a1, a2⟩)] at k9
      refine s_i2lW dL_left_7 ?_
      refine s_lastoreG dL_left_8 io_224 (by decide) (by decide) C1.1 (i3_in _) (fun hG2 => ?_)
      refine s_goto (tgt := 15) dL_left_9 (by decide) ?_
      refine s_iconst dL_left_15 ?_
      refine s_ireturn dL_left_16 rfl ?_
      exact k9 _ (cr_put C1 hG2) (b5_put (b5_lo B (fun y => f1 195 y (by omega)))) (fl_put (fun x y a => f1 x y (by omega)) _) (fun _ => hs_eq _ _ _ _)
    · have k9 := k
      unfold op_left at k9
      rw [if_neg (by first | omega | assumption | (intro q; exact absurd q (by assumption)))] at k9
      exact ⟨rfl, 1, by simp [vy_X], k9 h1 C1 (b5_lo B (fun y => f1 195 y (by omega))) (fl_id (fun x y a => f1 x y (by omega))) (fun q => absurd (show (1 : Int) = 0 from q) (by decide))⟩
  · rintro E9 N' h1 ⟨rfl, K, hm, hq⟩
    simp only [List.mem_cons, List.not_mem_nil, or_false, Prod.mk.injEq] at hm
    obtain ⟨rfl, rfl⟩ := hm
    · refine ⟨12, 3, 1, ⟨[], (0, 9, 12, 19), [], _, rfl, fun z hz => absurd hz List.not_mem_nil, by decide, by decide, by decide, kl_L_19, ka_L_19, rfl⟩, Or.inl ⟨3, rfl, rfl, dL_left_12⟩, by decide, rfl, ?_⟩
      refine s_iconst dL_left_13 ?_
      exact s_ireturn dL_left_14 rfl hq
abbrev ML_takes : PM := (RL, cL_takes, 5, (some .int))
abbrev HL_takes : List (Nat × Nat × Nat × Nat) := [(0, 10, 13, 19)]
theorem sx_takes : SX_ RL 207 yL_takes ML_takes HL_takes 4 := ⟨tb_in 122 (by decide +kernel) (by decide +kernel), tb_in 1296 (by decide +kernel) (by decide +kernel), ⟨by decide +kernel, by decide +kernel⟩, np_len (by decide +kernel), tb_in 1294 (by decide +kernel) (by decide +kernel), tb_in 1295 (by decide +kernel) (by decide +kernel)⟩
set_option maxRecDepth 100000 in
set_option maxHeartbeats 4000000 in
theorem w_takes {g p : Int} (hd : 15 ≤ d) (hbc : 700 ≤ bc) (hbs : 1400 ≤ bs) (C : CR_ h z) (B : B5_ h) (hg : inI g) (hp : inI p) (k : MKC_ Q h (op_takes z g p).2.2 (op_takes z g p).1 (op_takes z g p).2.1) : CW_ (.codeWith yL_takes ML_takes.2.1 ML_takes.2.2.1 ML_takes.2.2.2 HL_takes) yL_takes d bc bs [(2, 0), (0, g), (0, p), (2, 224)] nN h Q := by
  refine s_enterH (M := ML_takes) pn_L rfl (Nat.le_of_ble_eq_true rfl) (L := [(2, _), (0, _), (0, _), (2, _), (9, _)]) rfl ?_
  refine s_aload_n dL_takes_0 rfl ?_
  refine s_iconst dL_takes_1 ?_
  refine s_aload_n dL_takes_2 rfl ?_
  refine s_iload_n dL_takes_3 rfl ?_
  refine s_iload_n dL_takes_4 rfl ?_
  refine e_callVH (d' := d - 1) (bc' := bc) (bs' := bs) (as := [_, _]) (EX := EX_ Q [("java/lang/IndexOutOfBoundsException", 1)]) dL_takes_5 vf_L_84 (dd_ (by omega) (by decide)) ⟨Nat.le_refl _, Nat.le_refl _⟩ rfl rfl (Nat.le_of_ble_eq_true rfl) kl_6 rfl io_0 ?_ ?_
  · refine c_X8_takes (by omega) (by omega) (by omega) C (by assumption) (by assumption) (fun a1 a2 a3 a4 h1 C1 f1 => ?_) (fun a1 h1 C1 f1 => ?_)
    · have k9 := k
      unfold op_takes at k9
      rw [if_pos (by first | assumption | omega | exact ⟨a1, a2, a3, a4⟩)] at k9
      refine s_i2lW dL_takes_8 ?_
      refine s_lastoreG dL_takes_9 io_224 (by decide) (by decide) C1.1 (i3_in _) (fun hG2 => ?_)
      refine s_goto (tgt := 17) dL_takes_10 (by decide) ?_
      refine s_iconst dL_takes_17 ?_
      refine s_ireturn dL_takes_18 rfl ?_
      exact k9 _ (cr_put C1 hG2) (b5_put (b5_lo B (fun y => f1 195 y (by omega)))) (fl_put (fun x y a => f1 x y (by omega)) _) (fun _ => hs_eq _ _ _ _)
    · have k9 := k
      unfold op_takes at k9
      rw [if_neg (by first | omega | assumption | (intro q; exact absurd q (by assumption)))] at k9
      exact ⟨rfl, 1, by simp [vy_X], k9 h1 C1 (b5_lo B (fun y => f1 195 y (by omega))) (fl_id (fun x y a => f1 x y (by omega))) (fun q => absurd (show (1 : Int) = 0 from q) (by decide))⟩
  · rintro E9 N' h1 ⟨rfl, K, hm, hq⟩
    simp only [List.mem_cons, List.not_mem_nil, or_false, Prod.mk.injEq] at hm
    obtain ⟨rfl, rfl⟩ := hm
    · refine ⟨13, 4, 2, ⟨[], (0, 10, 13, 19), [], _, rfl, fun z hz => absurd hz List.not_mem_nil, by decide, by decide, by decide, kl_L_19, ka_L_19, rfl⟩, Or.inr ⟨rfl, dL_takes_13⟩, by decide, rfl, ?_⟩
      refine s_iconst dL_takes_15 ?_
      exact s_ireturn dL_takes_16 rfl hq
abbrev ML_taken : PM := (RL, cL_taken, 5, (some .int))
abbrev HL_taken : List (Nat × Nat × Nat × Nat) := [(0, 10, 13, 19), (0, 10, 17, 25)]
theorem sx_taken : SX_ RL 210 yL_taken ML_taken HL_taken 4 := ⟨tb_in 122 (by decide +kernel) (by decide +kernel), tb_in 1303 (by decide +kernel) (by decide +kernel), ⟨by decide +kernel, by decide +kernel⟩, np_len (by decide +kernel), tb_in 1301 (by decide +kernel) (by decide +kernel), tb_in 1302 (by decide +kernel) (by decide +kernel)⟩
set_option maxRecDepth 100000 in
set_option maxHeartbeats 4000000 in
theorem w_taken {p v : Int} (hd : 15 ≤ d) (hbc : 700 ≤ bc) (hbs : 1400 ≤ bs) (C : CR_ h z) (B : B5_ h) (hp : inI p) (hv : inI v) (k : MKC_ Q h (op_taken z p v).2.2 (op_taken z p v).1 (op_taken z p v).2.1) : CW_ (.codeWith yL_taken ML_taken.2.1 ML_taken.2.2.1 ML_taken.2.2.2 HL_taken) yL_taken d bc bs [(2, 0), (0, p), (0, v), (2, 224)] nN h Q := by
  refine s_enterH (M := ML_taken) pn_L rfl (Nat.le_of_ble_eq_true rfl) (L := [(2, _), (0, _), (0, _), (2, _), (9, _)]) rfl ?_
  refine s_aload_n dL_taken_0 rfl ?_
  refine s_iconst dL_taken_1 ?_
  refine s_aload_n dL_taken_2 rfl ?_
  refine s_iload_n dL_taken_3 rfl ?_
  refine s_iload_n dL_taken_4 rfl ?_
  refine e_callVH (d' := d - 1) (bc' := bc) (bs' := bs) (as := [_, _]) (EX := EX_ Q [("java/lang/IndexOutOfBoundsException", 1), ("java/util/NoSuchElementException", 2)]) dL_taken_5 vf_L_87 (dd_ (by omega) (by decide)) ⟨Nat.le_refl _, Nat.le_refl _⟩ rfl rfl (Nat.le_of_ble_eq_true rfl) kl_6 rfl io_0 ?_ ?_
  · refine c_X8_taken (by omega) (by omega) (by omega) C (by assumption) (by assumption) (fun a1 a2 a3 a4 h1 C1 f1 => ?_) (fun a1 h1 C1 f1 => ?_) (fun a1 a2 a3 h1 C1 f1 => ?_)
    · have k9 := k
      unfold op_taken at k9
      rw [if_pos (by first | assumption | omega | exact ⟨a1, a2, a3, a4⟩)] at k9
      refine s_i2lW dL_taken_8 ?_
      refine s_lastoreG dL_taken_9 io_224 (by decide) (by decide) C1.1 (i3_in _) (fun hG2 => ?_)
      refine s_goto (tgt := 21) dL_taken_10 (by decide) ?_
      refine s_iconst dL_taken_21 ?_
      refine s_ireturn dL_taken_22 rfl ?_
      exact k9 _ (cr_put C1 hG2) (b5_put (b5_lo B (fun y => f1 195 y (by omega)))) (fl_put (fun x y a => f1 x y (by omega)) _) (fun _ => hs_eq _ _ _ _)
    · have k9 := k
      unfold op_taken at k9
      rw [if_neg (by first | omega | assumption | (intro q; exact absurd q (by assumption))), if_pos (by first | assumption | omega | exact ⟨a1⟩)] at k9
      exact ⟨rfl, 1, by simp [vy_X], k9 h1 C1 (b5_lo B (fun y => f1 195 y (by omega))) (fl_id (fun x y a => f1 x y (by omega))) (fun q => absurd (show (1 : Int) = 0 from q) (by decide))⟩
    · have k9 := k
      unfold op_taken at k9
      rw [if_neg (by first | omega | assumption | (intro q; exact absurd q (by assumption))), if_neg (by first | omega | assumption | (intro q; exact absurd q (by assumption)))] at k9
      exact ⟨rfl, 2, by simp [vy_X], k9 h1 C1 (b5_lo B (fun y => f1 195 y (by omega))) (fl_id (fun x y a => f1 x y (by omega))) (fun q => absurd (show (2 : Int) = 0 from q) (by decide))⟩
  · rintro E9 N' h1 ⟨rfl, K, hm, hq⟩
    simp only [List.mem_cons, List.not_mem_nil, or_false, Prod.mk.injEq] at hm
    rcases hm with ⟨rfl, rfl⟩ | ⟨rfl, rfl⟩
    · refine ⟨13, 4, 2, ⟨[], (0, 10, 13, 19), [(0, 10, 17, 25)], _, rfl, fun z hz => absurd hz List.not_mem_nil, by decide, by decide, by decide, kl_L_19, ka_L_19, rfl⟩, Or.inr ⟨rfl, dL_taken_13⟩, by decide, rfl, ?_⟩
      refine s_iconst dL_taken_15 ?_
      exact s_ireturn dL_taken_16 rfl hq
    · refine ⟨17, 4, 2, ⟨[(0, 10, 13, 19)], (0, 10, 17, 25), [], _, rfl, fun z hz => by
        simp only [List.mem_cons, List.not_mem_nil, or_false] at hz
        subst hz
        exact ⟨by decide, _, kl_L_19, by simp [kxn_]⟩, by decide, by decide, by decide, kl_L_25, ka_L_25, rfl⟩, Or.inr ⟨rfl, dL_taken_17⟩, by decide, rfl, ?_⟩
      refine s_iconst dL_taken_19 ?_
      exact s_ireturn dL_taken_20 rfl hq
abbrev ML_stock : PM := (RL, cL_stock, 5, (some .int))
abbrev HL_stock : List (Nat × Nat × Nat × Nat) := [(0, 10, 13, 19)]
theorem sx_stock : SX_ RL 213 yL_stock ML_stock HL_stock 4 := ⟨tb_in 122 (by decide +kernel) (by decide +kernel), tb_in 1316 (by decide +kernel) (by decide +kernel), ⟨by decide +kernel, by decide +kernel⟩, np_len (by decide +kernel), tb_in 1314 (by decide +kernel) (by decide +kernel), tb_in 1315 (by decide +kernel) (by decide +kernel)⟩
set_option maxRecDepth 100000 in
set_option maxHeartbeats 4000000 in
theorem w_stock {x v : Int} (hd : 15 ≤ d) (hbc : 700 ≤ bc) (hbs : 1400 ≤ bs) (C : CR_ h z) (B : B5_ h) (hp : inI x) (hv : inI v) (k : MKC_ Q h (op_stock z x v).2.2 (op_stock z x v).1 (op_stock z x v).2.1) : CW_ (.codeWith yL_stock ML_stock.2.1 ML_stock.2.2.1 ML_stock.2.2.2 HL_stock) yL_stock d bc bs [(2, 0), (0, x), (0, v), (2, 224)] nN h Q := by
  refine s_enterH (M := ML_stock) pn_L rfl (Nat.le_of_ble_eq_true rfl) (L := [(2, _), (0, _), (0, _), (2, _), (9, _)]) rfl ?_
  refine s_aload_n dL_stock_0 rfl ?_
  refine s_iconst dL_stock_1 ?_
  refine s_aload_n dL_stock_2 rfl ?_
  refine s_iload_n dL_stock_3 rfl ?_
  refine s_iload_n dL_stock_4 rfl ?_
  refine e_callVH (d' := d - 1) (bc' := bc) (bs' := bs) (as := [_, _]) (EX := EX_ Q [("java/lang/IndexOutOfBoundsException", 1)]) dL_stock_5 vf_L_90 (dd_ (by omega) (by decide)) ⟨Nat.le_refl _, Nat.le_refl _⟩ rfl rfl (Nat.le_of_ble_eq_true rfl) kl_6 rfl io_0 ?_ ?_
  · refine c_X8_stock (by omega) (by omega) (by omega) C (by assumption) (by assumption) (fun a1 a2 h1 C1 f1 => ?_) (fun a1 h1 C1 f1 => ?_)
    · have k9 := k
      unfold op_stock at k9
      rw [if_pos (by first | assumption | omega | exact ⟨a1, a2⟩)] at k9
      refine s_i2lW dL_stock_8 ?_
      refine s_lastoreG dL_stock_9 io_224 (by decide) (by decide) C1.1 (i3_in _) (fun hG2 => ?_)
      refine s_goto (tgt := 17) dL_stock_10 (by decide) ?_
      refine s_iconst dL_stock_17 ?_
      refine s_ireturn dL_stock_18 rfl ?_
      exact k9 _ (cr_put C1 hG2) (b5_put (b5_lo B (fun y => f1 195 y (by omega)))) (fl_put (fun x y a => f1 x y (by omega)) _) (fun _ => hs_eq _ _ _ _)
    · have k9 := k
      unfold op_stock at k9
      rw [if_neg (by first | omega | assumption | (intro q; exact absurd q (by assumption)))] at k9
      exact ⟨rfl, 1, by simp [vy_X], k9 h1 C1 (b5_lo B (fun y => f1 195 y (by omega))) (fl_id (fun x y a => f1 x y (by omega))) (fun q => absurd (show (1 : Int) = 0 from q) (by decide))⟩
  · rintro E9 N' h1 ⟨rfl, K, hm, hq⟩
    simp only [List.mem_cons, List.not_mem_nil, or_false, Prod.mk.injEq] at hm
    obtain ⟨rfl, rfl⟩ := hm
    · refine ⟨13, 4, 2, ⟨[], (0, 10, 13, 19), [], _, rfl, fun z hz => absurd hz List.not_mem_nil, by decide, by decide, by decide, kl_L_19, ka_L_19, rfl⟩, Or.inr ⟨rfl, dL_stock_13⟩, by decide, rfl, ?_⟩
      refine s_iconst dL_stock_15 ?_
      exact s_ireturn dL_stock_16 rfl hq
abbrev ML_ifDead : PM := (RL, cL_ifDead, 5, (some .int))
abbrev HL_ifDead : List (Nat × Nat × Nat × Nat) := [(0, 10, 13, 19), (0, 10, 17, 37)]
theorem sx_ifDead : SX_ RL 224 yL_ifDead ML_ifDead HL_ifDead 4 := ⟨tb_in 122 (by decide +kernel) (by decide +kernel), tb_in 1327 (by decide +kernel) (by decide +kernel), ⟨by decide +kernel, by decide +kernel⟩, np_len (by decide +kernel), tb_in 1325 (by decide +kernel) (by decide +kernel), tb_in 1326 (by decide +kernel) (by decide +kernel)⟩
set_option maxRecDepth 100000 in
set_option maxHeartbeats 4000000 in
theorem w_ifDead {p t : Int} (hd : 15 ≤ d) (hbc : 700 ≤ bc) (hbs : 1400 ≤ bs) (C : CR_ h z) (B : B5_ h) (hp : inI p) (ht : inI t) (k : MKC_ Q h (op_ifDead z p t).2.2 (op_ifDead z p t).1 (op_ifDead z p t).2.1) : CW_ (.codeWith yL_ifDead ML_ifDead.2.1 ML_ifDead.2.2.1 ML_ifDead.2.2.2 HL_ifDead) yL_ifDead d bc bs [(2, 0), (0, p), (0, t), (2, 224)] nN h Q := by
  refine s_enterH (M := ML_ifDead) pn_L rfl (Nat.le_of_ble_eq_true rfl) (L := [(2, _), (0, _), (0, _), (2, _), (9, _)]) rfl ?_
  refine s_aload_n dL_ifDead_0 rfl ?_
  refine s_iconst dL_ifDead_1 ?_
  refine s_aload_n dL_ifDead_2 rfl ?_
  refine s_iload_n dL_ifDead_3 rfl ?_
  refine s_iload_n dL_ifDead_4 rfl ?_
  refine e_callVH (d' := d - 1) (bc' := bc) (bs' := bs) (as := [_, _]) (EX := EX_ Q [("java/lang/IndexOutOfBoundsException", 1), ("java/lang/IllegalStateException", 2)]) dL_ifDead_5 vf_L_93 (dd_ (by omega) (by decide)) ⟨Nat.le_refl _, Nat.le_refl _⟩ rfl rfl (Nat.le_of_ble_eq_true rfl) kl_6 rfl io_0 ?_ ?_
  · refine c_X8_ifDead (by omega) (by omega) (by omega) C (by assumption) (by assumption) (fun a1 a2 a3 a4 a5 h1 C1 f1 => ?_) (fun a1 h1 C1 f1 => ?_) (fun a1 a2 a3 a4 a5 h1 C1 f1 => ?_)
    · have k9 := k
      unfold op_ifDead at k9
      rw [if_pos (by first | assumption | omega | exact ⟨a1, a2, a3, a4, a5⟩)] at k9
      refine s_i2lW dL_ifDead_8 ?_
      refine s_lastoreG dL_ifDead_9 io_224 (by decide) (by decide) C1.1 (i3_in _) (fun hG2 => ?_)
      refine s_goto (tgt := 21) dL_ifDead_10 (by decide) ?_
      refine s_iconst dL_ifDead_21 ?_
      refine s_ireturn dL_ifDead_22 rfl ?_
      exact k9 _ (cr_put C1 hG2) (b5_put (b5_lo B (fun y => f1 195 y (by omega)))) (fl_put (fun x y a => f1 x y (by omega)) _) (fun _ => hs_eq _ _ _ _)
    · have k9 := k
      unfold op_ifDead at k9
      rw [if_neg (by first | omega | assumption | (intro q; exact absurd q (by assumption))), if_pos (by first | assumption | omega | exact ⟨a1⟩)] at k9
      exact ⟨rfl, 1, by simp [vy_X], k9 h1 C1 (b5_lo B (fun y => f1 195 y (by omega))) (fl_id (fun x y a => f1 x y (by omega))) (fun q => absurd (show (1 : Int) = 0 from q) (by decide))⟩
    · have k9 := k
      unfold op_ifDead at k9
      rw [if_neg (by first | omega | assumption | (intro q; exact absurd q (by assumption))), if_neg (by first | omega | assumption | (intro q; exact absurd q (by assumption)))] at k9
      exact ⟨rfl, 2, by simp [vy_X], k9 h1 C1 (b5_lo B (fun y => f1 195 y (by omega))) (fl_id (fun x y a => f1 x y (by omega))) (fun q => absurd (show (2 : Int) = 0 from q) (by decide))⟩
  · rintro E9 N' h1 ⟨rfl, K, hm, hq⟩
    simp only [List.mem_cons, List.not_mem_nil, or_false, Prod.mk.injEq] at hm
    rcases hm with ⟨rfl, rfl⟩ | ⟨rfl, rfl⟩
    · refine ⟨13, 4, 2, ⟨[], (0, 10, 13, 19), [(0, 10, 17, 37)], _, rfl, fun z hz => absurd hz List.not_mem_nil, by decide, by decide, by decide, kl_L_19, ka_L_19, rfl⟩, Or.inr ⟨rfl, dL_ifDead_13⟩, by decide, rfl, ?_⟩
      refine s_iconst dL_ifDead_15 ?_
      exact s_ireturn dL_ifDead_16 rfl hq
    · refine ⟨17, 4, 2, ⟨[(0, 10, 13, 19)], (0, 10, 17, 37), [], _, rfl, fun z hz => by
        simp only [List.mem_cons, List.not_mem_nil, or_false] at hz
        subst hz
        exact ⟨by decide, _, kl_L_19, by simp [kxn_]⟩, by decide, by decide, by decide, kl_L_37, ka_L_37, rfl⟩, Or.inr ⟨rfl, dL_ifDead_17⟩, by decide, rfl, ?_⟩
      refine s_iconst dL_ifDead_19 ?_
      exact s_ireturn dL_ifDead_20 rfl hq
abbrev ML_ifSold : PM := (RL, cL_ifSold, 7, (some .int))
abbrev HL_ifSold : List (Nat × Nat × Nat × Nat) := [(0, 14, 17, 19), (0, 14, 21, 13), (0, 14, 25, 37)]
theorem sx_ifSold : SX_ RL 227 yL_ifSold ML_ifSold HL_ifSold 6 := ⟨tb_in 122 (by decide +kernel) (by decide +kernel), tb_in 1338 (by decide +kernel) (by decide +kernel), ⟨by decide +kernel, by decide +kernel⟩, np_len (by decide +kernel), tb_in 1336 (by decide +kernel) (by decide +kernel), tb_in 1337 (by decide +kernel) (by decide +kernel)⟩
set_option maxRecDepth 100000 in
set_option maxHeartbeats 4000000 in
theorem w_ifSold {p t v e : Int} (hd : 15 ≤ d) (hbc : 700 ≤ bc) (hbs : 1400 ≤ bs) (C : CR_ h z) (B : B5_ h) (hp : inI p) (ht : inI t) (hv : inI v) (he : inI e) (k : MKC_ Q h (op_ifSold z p t v e).2.2 (op_ifSold z p t v e).1 (op_ifSold z p t v e).2.1) : CW_ (.codeWith yL_ifSold ML_ifSold.2.1 ML_ifSold.2.2.1 ML_ifSold.2.2.2 HL_ifSold) yL_ifSold d bc bs [(2, 0), (0, p), (0, t), (0, v), (0, e), (2, 224)] nN h Q := by
  refine s_enterH (M := ML_ifSold) pn_L rfl (Nat.le_of_ble_eq_true rfl) (L := [(2, _), (0, _), (0, _), (0, _), (0, _), (2, _), (9, _)]) rfl ?_
  refine s_aload dL_ifSold_0 rfl ?_
  refine s_iconst dL_ifSold_2 ?_
  refine s_aload_n dL_ifSold_3 rfl ?_
  refine s_iload_n dL_ifSold_4 rfl ?_
  refine s_iload_n dL_ifSold_5 rfl ?_
  refine s_iload_n dL_ifSold_6 rfl ?_
  refine s_iload dL_ifSold_7 rfl ?_
  refine e_callVH (d' := d - 1) (bc' := bc) (bs' := bs) (as := [_, _, _, _]) (EX := EX_ Q [("java/lang/IndexOutOfBoundsException", 1), ("java/lang/IllegalArgumentException", 2), ("java/lang/IllegalStateException", 3)]) dL_ifSold_9 vf_L_96 (dd_ (by omega) (by decide)) ⟨Nat.le_refl _, Nat.le_refl _⟩ rfl rfl (Nat.le_of_ble_eq_true rfl) kl_6 rfl io_0 ?_ ?_
  · refine c_X8_ifSold (by omega) (by omega) (by omega) C (by assumption) (by assumption) (by assumption) (by assumption) (fun a1 a2 a3 a4 a5 a6 a7 h1 C1 f1 => ?_) (fun a1 h1 C1 f1 => ?_) (fun a1 a2 a3 a4 a5 h1 C1 f1 => ?_) (fun a1 a2 a3 a4 a5 a6 h1 C1 f1 => ?_)
    · have k9 := k
      unfold op_ifSold at k9
      rw [if_pos (by first | assumption | omega | exact ⟨a1, a2, a3, a4, a5, a6, a7⟩)] at k9
      refine s_i2lW dL_ifSold_12 ?_
      refine s_lastoreG dL_ifSold_13 io_224 (by decide) (by decide) C1.1 (i3_in _) (fun hG2 => ?_)
      refine s_goto (tgt := 29) dL_ifSold_14 (by decide) ?_
      refine s_iconst dL_ifSold_29 ?_
      refine s_ireturn dL_ifSold_30 rfl ?_
      exact k9 _ (cr_put C1 hG2) (b5_put (b5_lo B (fun y => f1 195 y (by omega)))) (fl_put (fun x y a => f1 x y (by omega)) _) (fun _ => hs_eq _ _ _ _)
    · have k9 := k
      unfold op_ifSold at k9
      rw [if_neg (by first | omega | assumption | (intro q; exact absurd q (by assumption))), if_pos (by first | assumption | omega | exact ⟨a1⟩)] at k9
      exact ⟨rfl, 1, by simp [vy_X], k9 h1 C1 (b5_lo B (fun y => f1 195 y (by omega))) (fl_id (fun x y a => f1 x y (by omega))) (fun q => absurd (show (1 : Int) = 0 from q) (by decide))⟩
    · have k9 := k
      unfold op_ifSold at k9
      rw [if_neg (by first | omega | assumption | (intro q; exact absurd q (by assumption))), if_neg (by first | omega | assumption | (intro q; exact absurd q (by assumption))), if_pos (by first | assumption | omega | exact ⟨a1, a2, a3, a4, a5⟩)] at k9
      exact ⟨rfl, 2, by simp [vy_X], k9 h1 C1 (b5_lo B (fun y => f1 195 y (by omega))) (fl_id (fun x y a => f1 x y (by omega))) (fun q => absurd (show (2 : Int) = 0 from q) (by decide))⟩
    · have k9 := k
      unfold op_ifSold at k9
      rw [if_neg (by first | omega | assumption | (intro q; exact absurd q (by assumption))), if_neg (by first | omega | assumption | (intro q; exact absurd q (by assumption))), if_neg (by first | omega | assumption | (intro q; exact absurd q (by assumption)))] at k9
      exact ⟨rfl, 3, by simp [vy_X], k9 h1 C1 (b5_lo B (fun y => f1 195 y (by omega))) (fl_id (fun x y a => f1 x y (by omega))) (fun q => absurd (show (3 : Int) = 0 from q) (by decide))⟩
  · rintro E9 N' h1 ⟨rfl, K, hm, hq⟩
    simp only [List.mem_cons, List.not_mem_nil, or_false, Prod.mk.injEq] at hm
    rcases hm with ⟨rfl, rfl⟩ | ⟨rfl, rfl⟩ | ⟨rfl, rfl⟩
    · refine ⟨17, 6, 2, ⟨[], (0, 14, 17, 19), [(0, 14, 21, 13), (0, 14, 25, 37)], _, rfl, fun z hz => absurd hz List.not_mem_nil, by decide, by decide, by decide, kl_L_19, ka_L_19, rfl⟩, Or.inr ⟨rfl, dL_ifSold_17⟩, by decide, rfl, ?_⟩
      refine s_iconst dL_ifSold_19 ?_
      exact s_ireturn dL_ifSold_20 rfl hq
    · refine ⟨21, 6, 2, ⟨[(0, 14, 17, 19)], (0, 14, 21, 13), [(0, 14, 25, 37)], _, rfl, fun z hz => by
        simp only [List.mem_cons, List.not_mem_nil, or_false] at hz
        subst hz
        exact ⟨by decide, _, kl_L_19, by simp [kxn_]⟩, by decide, by decide, by decide, kl_L_13, ka_L_13, rfl⟩, Or.inr ⟨rfl, dL_ifSold_21⟩, by decide, rfl, ?_⟩
      refine s_iconst dL_ifSold_23 ?_
      exact s_ireturn dL_ifSold_24 rfl hq
    · refine ⟨25, 6, 2, ⟨[(0, 14, 17, 19), (0, 14, 21, 13)], (0, 14, 25, 37), [], _, rfl, fun z hz => by
        simp only [List.mem_cons, List.not_mem_nil, or_false] at hz
        rcases hz with rfl | rfl
        · exact ⟨by decide, _, kl_L_19, by simp [kxn_]⟩
        · exact ⟨by decide, _, kl_L_13, by simp [kxn_]⟩, by decide, by decide, by decide, kl_L_37, ka_L_37, rfl⟩, Or.inr ⟨rfl, dL_ifSold_25⟩, by decide, rfl, ?_⟩
      refine s_iconst dL_ifSold_27 ?_
      exact s_ireturn dL_ifSold_28 rfl hq
abbrev ML_ifDebt : PM := (RL, cL_ifDebt, 5, (some .int))
abbrev HL_ifDebt : List (Nat × Nat × Nat × Nat) := [(0, 10, 13, 19), (0, 10, 17, 13)]
theorem sx_ifDebt : SX_ RL 231 yL_ifDebt ML_ifDebt HL_ifDebt 4 := ⟨tb_in 122 (by decide +kernel) (by decide +kernel), tb_in 1345 (by decide +kernel) (by decide +kernel), ⟨by decide +kernel, by decide +kernel⟩, np_len (by decide +kernel), tb_in 1343 (by decide +kernel) (by decide +kernel), tb_in 1344 (by decide +kernel) (by decide +kernel)⟩
set_option maxRecDepth 100000 in
set_option maxHeartbeats 4000000 in
theorem w_ifDebt {p v : Int} (hd : 15 ≤ d) (hbc : 700 ≤ bc) (hbs : 1400 ≤ bs) (C : CR_ h z) (B : B5_ h) (hp : inI p) (hv : inI v) (k : MKC_ Q h (op_ifDebt z p v).2.2 (op_ifDebt z p v).1 (op_ifDebt z p v).2.1) : CW_ (.codeWith yL_ifDebt ML_ifDebt.2.1 ML_ifDebt.2.2.1 ML_ifDebt.2.2.2 HL_ifDebt) yL_ifDebt d bc bs [(2, 0), (0, p), (0, v), (2, 224)] nN h Q := by
  refine s_enterH (M := ML_ifDebt) pn_L rfl (Nat.le_of_ble_eq_true rfl) (L := [(2, _), (0, _), (0, _), (2, _), (9, _)]) rfl ?_
  refine s_aload_n dL_ifDebt_0 rfl ?_
  refine s_iconst dL_ifDebt_1 ?_
  refine s_aload_n dL_ifDebt_2 rfl ?_
  refine s_iload_n dL_ifDebt_3 rfl ?_
  refine s_iload_n dL_ifDebt_4 rfl ?_
  refine e_callVH (d' := d - 1) (bc' := bc) (bs' := bs) (as := [_, _]) (EX := EX_ Q [("java/lang/IndexOutOfBoundsException", 1), ("java/lang/IllegalArgumentException", 2)]) dL_ifDebt_5 vf_L_100 (dd_ (by omega) (by decide)) ⟨Nat.le_refl _, Nat.le_refl _⟩ rfl rfl (Nat.le_of_ble_eq_true rfl) kl_6 rfl io_0 ?_ ?_
  · refine c_X8_ifDebt (by omega) (by omega) (by omega) C (by assumption) (by assumption) (fun a1 a2 a3 a4 h1 C1 f1 => ?_) (fun a1 h1 C1 f1 => ?_) (fun a1 a2 a3 h1 C1 f1 => ?_)
    · have k9 := k
      unfold op_ifDebt at k9
      rw [if_pos (by first | assumption | omega | exact ⟨a1, a2, a3, a4⟩)] at k9
      refine s_i2lW dL_ifDebt_8 ?_
      refine s_lastoreG dL_ifDebt_9 io_224 (by decide) (by decide) C1.1 (i3_in _) (fun hG2 => ?_)
      refine s_goto (tgt := 21) dL_ifDebt_10 (by decide) ?_
      refine s_iconst dL_ifDebt_21 ?_
      refine s_ireturn dL_ifDebt_22 rfl ?_
      exact k9 _ (cr_put C1 hG2) (b5_put (b5_lo B (fun y => f1 195 y (by omega)))) (fl_put (fun x y a => f1 x y (by omega)) _) (fun _ => hs_eq _ _ _ _)
    · have k9 := k
      unfold op_ifDebt at k9
      rw [if_neg (by first | omega | assumption | (intro q; exact absurd q (by assumption))), if_pos (by first | assumption | omega | exact ⟨a1⟩)] at k9
      exact ⟨rfl, 1, by simp [vy_X], k9 h1 C1 (b5_lo B (fun y => f1 195 y (by omega))) (fl_id (fun x y a => f1 x y (by omega))) (fun q => absurd (show (1 : Int) = 0 from q) (by decide))⟩
    · have k9 := k
      unfold op_ifDebt at k9
      rw [if_neg (by first | omega | assumption | (intro q; exact absurd q (by assumption))), if_neg (by first | omega | assumption | (intro q; exact absurd q (by assumption)))] at k9
      exact ⟨rfl, 2, by simp [vy_X], k9 h1 C1 (b5_lo B (fun y => f1 195 y (by omega))) (fl_id (fun x y a => f1 x y (by omega))) (fun q => absurd (show (2 : Int) = 0 from q) (by decide))⟩
  · rintro E9 N' h1 ⟨rfl, K, hm, hq⟩
    simp only [List.mem_cons, List.not_mem_nil, or_false, Prod.mk.injEq] at hm
    rcases hm with ⟨rfl, rfl⟩ | ⟨rfl, rfl⟩
    · refine ⟨13, 4, 2, ⟨[], (0, 10, 13, 19), [(0, 10, 17, 13)], _, rfl, fun z hz => absurd hz List.not_mem_nil, by decide, by decide, by decide, kl_L_19, ka_L_19, rfl⟩, Or.inr ⟨rfl, dL_ifDebt_13⟩, by decide, rfl, ?_⟩
      refine s_iconst dL_ifDebt_15 ?_
      exact s_ireturn dL_ifDebt_16 rfl hq
    · refine ⟨17, 4, 2, ⟨[(0, 10, 13, 19)], (0, 10, 17, 13), [], _, rfl, fun z hz => by
        simp only [List.mem_cons, List.not_mem_nil, or_false] at hz
        subst hz
        exact ⟨by decide, _, kl_L_19, by simp [kxn_]⟩, by decide, by decide, by decide, kl_L_13, ka_L_13, rfl⟩, Or.inr ⟨rfl, dL_ifDebt_17⟩, by decide, rfl, ?_⟩
      refine s_iconst dL_ifDebt_19 ?_
      exact s_ireturn dL_ifDebt_20 rfl hq
abbrev ML_ifRenounced : PM := (RL, cL_ifRenounced, 5, (some .int))
abbrev HL_ifRenounced : List (Nat × Nat × Nat × Nat) := [(0, 10, 13, 19)]
theorem sx_ifRenounced : SX_ RL 234 yL_ifRenounced ML_ifRenounced HL_ifRenounced 4 := ⟨tb_in 122 (by decide +kernel) (by decide +kernel), tb_in 1353 (by decide +kernel) (by decide +kernel), ⟨by decide +kernel, by decide +kernel⟩, np_len (by decide +kernel), tb_in 1351 (by decide +kernel) (by decide +kernel), tb_in 1352 (by decide +kernel) (by decide +kernel)⟩
set_option maxRecDepth 100000 in
set_option maxHeartbeats 4000000 in
theorem w_ifRenounced {p g : Int} (hd : 15 ≤ d) (hbc : 700 ≤ bc) (hbs : 1400 ≤ bs) (C : CR_ h z) (B : B5_ h) (hp : inI p) (hg : inI g) (k : MKC_ Q h (op_ifRenounced z p g).2.2 (op_ifRenounced z p g).1 (op_ifRenounced z p g).2.1) : CW_ (.codeWith yL_ifRenounced ML_ifRenounced.2.1 ML_ifRenounced.2.2.1 ML_ifRenounced.2.2.2 HL_ifRenounced) yL_ifRenounced d bc bs [(2, 0), (0, p), (0, g), (2, 224)] nN h Q := by
  refine s_enterH (M := ML_ifRenounced) pn_L rfl (Nat.le_of_ble_eq_true rfl) (L := [(2, _), (0, _), (0, _), (2, _), (9, _)]) rfl ?_
  refine s_aload_n dL_ifRenounced_0 rfl ?_
  refine s_iconst dL_ifRenounced_1 ?_
  refine s_aload_n dL_ifRenounced_2 rfl ?_
  refine s_iload_n dL_ifRenounced_3 rfl ?_
  refine s_iload_n dL_ifRenounced_4 rfl ?_
  refine e_callVH (d' := d - 1) (bc' := bc) (bs' := bs) (as := [_, _]) (EX := EX_ Q [("java/lang/IndexOutOfBoundsException", 1)]) dL_ifRenounced_5 vf_L_103 (dd_ (by omega) (by decide)) ⟨Nat.le_refl _, Nat.le_refl _⟩ rfl rfl (Nat.le_of_ble_eq_true rfl) kl_6 rfl io_0 ?_ ?_
  · refine c_X8_ifRenounced (by omega) (by omega) (by omega) C (by assumption) (by assumption) (fun a1 a2 a3 a4 h1 C1 f1 => ?_) (fun a1 h1 C1 f1 => ?_)
    · have k9 := k
      unfold op_ifRenounced at k9
      rw [if_pos (by first | assumption | omega | exact ⟨a1, a2, a3, a4⟩)] at k9
      refine s_i2lW dL_ifRenounced_8 ?_
      refine s_lastoreG dL_ifRenounced_9 io_224 (by decide) (by decide) C1.1 (i3_in _) (fun hG2 => ?_)
      refine s_goto (tgt := 17) dL_ifRenounced_10 (by decide) ?_
      refine s_iconst dL_ifRenounced_17 ?_
      refine s_ireturn dL_ifRenounced_18 rfl ?_
      exact k9 _ (cr_put C1 hG2) (b5_put (b5_lo B (fun y => f1 195 y (by omega)))) (fl_put (fun x y a => f1 x y (by omega)) _) (fun _ => hs_eq _ _ _ _)
    · have k9 := k
      unfold op_ifRenounced at k9
      rw [if_neg (by first | omega | assumption | (intro q; exact absurd q (by assumption)))] at k9
      exact ⟨rfl, 1, by simp [vy_X], k9 h1 C1 (b5_lo B (fun y => f1 195 y (by omega))) (fl_id (fun x y a => f1 x y (by omega))) (fun q => absurd (show (1 : Int) = 0 from q) (by decide))⟩
  · rintro E9 N' h1 ⟨rfl, K, hm, hq⟩
    simp only [List.mem_cons, List.not_mem_nil, or_false, Prod.mk.injEq] at hm
    obtain ⟨rfl, rfl⟩ := hm
    · refine ⟨13, 4, 2, ⟨[], (0, 10, 13, 19), [], _, rfl, fun z hz => absurd hz List.not_mem_nil, by decide, by decide, by decide, kl_L_19, ka_L_19, rfl⟩, Or.inr ⟨rfl, dL_ifRenounced_13⟩, by decide, rfl, ?_⟩
      refine s_iconst dL_ifRenounced_15 ?_
      exact s_ireturn dL_ifRenounced_16 rfl hq
abbrev ML_ifHeld : PM := (RL, cL_ifHeld, 4, (some .int))
abbrev HL_ifHeld : List (Nat × Nat × Nat × Nat) := [(0, 9, 12, 19), (0, 9, 15, 13)]
theorem sx_ifHeld : SX_ RL 237 yL_ifHeld ML_ifHeld HL_ifHeld 3 := ⟨tb_in 122 (by decide +kernel) (by decide +kernel), tb_in 1360 (by decide +kernel) (by decide +kernel), ⟨by decide +kernel, by decide +kernel⟩, np_len (by decide +kernel), tb_in 1358 (by decide +kernel) (by decide +kernel), tb_in 1359 (by decide +kernel) (by decide +kernel)⟩
set_option maxRecDepth 100000 in
set_option maxHeartbeats 4000000 in
theorem w_ifHeld {g : Int} (hd : 15 ≤ d) (hbc : 700 ≤ bc) (hbs : 1400 ≤ bs) (C : CR_ h z) (B : B5_ h) (hg : inI g) (k : MKC_ Q h (op_ifHeld z g).2.2 (op_ifHeld z g).1 (op_ifHeld z g).2.1) : CW_ (.codeWith yL_ifHeld ML_ifHeld.2.1 ML_ifHeld.2.2.1 ML_ifHeld.2.2.2 HL_ifHeld) yL_ifHeld d bc bs [(2, 0), (0, g), (2, 224)] nN h Q := by
  refine s_enterH (M := ML_ifHeld) pn_L rfl (Nat.le_of_ble_eq_true rfl) (L := [(2, _), (0, _), (2, _), (9, _)]) rfl ?_
  refine s_aload_n dL_ifHeld_0 rfl ?_
  refine s_iconst dL_ifHeld_1 ?_
  refine s_aload_n dL_ifHeld_2 rfl ?_
  refine s_iload_n dL_ifHeld_3 rfl ?_
  refine e_callVH (d' := d - 1) (bc' := bc) (bs' := bs) (as := [_]) (EX := EX_ Q [("java/lang/IndexOutOfBoundsException", 1), ("java/lang/IllegalArgumentException", 2)]) dL_ifHeld_4 vf_L_106 (dd_ (by omega) (by decide)) ⟨Nat.le_refl _, Nat.le_refl _⟩ rfl rfl (Nat.le_of_ble_eq_true rfl) kl_6 rfl io_0 ?_ ?_
  · refine c_X8_ifHeld (by omega) (by omega) (by omega) C (by assumption) (fun a1 a2 a3 h1 C1 f1 => ?_) (fun a1 h1 C1 f1 => ?_) (fun a1 a2 a3 h1 C1 f1 => ?_)
    · have k9 := k
      unfold op_ifHeld at k9
      rw [if_pos (by first | assumption | omega | exact ⟨a1, a2, a3⟩)] at k9
      refine s_i2lW dL_ifHeld_7 ?_
      refine s_lastoreG dL_ifHeld_8 io_224 (by decide) (by decide) C1.1 (i3_in _) (fun hG2 => ?_)
      refine s_goto (tgt := 18) dL_ifHeld_9 (by decide) ?_
      refine s_iconst dL_ifHeld_18 ?_
      refine s_ireturn dL_ifHeld_19 rfl ?_
      exact k9 _ (cr_put C1 hG2) (b5_put (b5_lo B (fun y => f1 195 y (by omega)))) (fl_put (fun x y a => f1 x y (by omega)) _) (fun _ => hs_eq _ _ _ _)
    · have k9 := k
      unfold op_ifHeld at k9
      rw [if_neg (by first | omega | assumption | (intro q; exact absurd q (by assumption))), if_pos (by first | assumption | omega | exact ⟨a1⟩)] at k9
      exact ⟨rfl, 1, by simp [vy_X], k9 h1 C1 (b5_lo B (fun y => f1 195 y (by omega))) (fl_id (fun x y a => f1 x y (by omega))) (fun q => absurd (show (1 : Int) = 0 from q) (by decide))⟩
    · have k9 := k
      unfold op_ifHeld at k9
      rw [if_neg (by first | omega | assumption | (intro q; exact absurd q (by assumption))), if_neg (by first | omega | assumption | (intro q; exact absurd q (by assumption)))] at k9
      exact ⟨rfl, 2, by simp [vy_X], k9 h1 C1 (b5_lo B (fun y => f1 195 y (by omega))) (fl_id (fun x y a => f1 x y (by omega))) (fun q => absurd (show (2 : Int) = 0 from q) (by decide))⟩
  · rintro E9 N' h1 ⟨rfl, K, hm, hq⟩
    simp only [List.mem_cons, List.not_mem_nil, or_false, Prod.mk.injEq] at hm
    rcases hm with ⟨rfl, rfl⟩ | ⟨rfl, rfl⟩
    · refine ⟨12, 3, 1, ⟨[], (0, 9, 12, 19), [(0, 9, 15, 13)], _, rfl, fun z hz => absurd hz List.not_mem_nil, by decide, by decide, by decide, kl_L_19, ka_L_19, rfl⟩, Or.inl ⟨3, rfl, rfl, dL_ifHeld_12⟩, by decide, rfl, ?_⟩
      refine s_iconst dL_ifHeld_13 ?_
      exact s_ireturn dL_ifHeld_14 rfl hq
    · refine ⟨15, 3, 1, ⟨[(0, 9, 12, 19)], (0, 9, 15, 13), [], _, rfl, fun z hz => by
        simp only [List.mem_cons, List.not_mem_nil, or_false] at hz
        subst hz
        exact ⟨by decide, _, kl_L_19, by simp [kxn_]⟩, by decide, by decide, by decide, kl_L_13, ka_L_13, rfl⟩, Or.inl ⟨3, rfl, rfl, dL_ifHeld_15⟩, by decide, rfl, ?_⟩
      refine s_iconst dL_ifHeld_16 ?_
      exact s_ireturn dL_ifHeld_17 rfl hq
abbrev ML_envied : PM := (RL, cL_envied, 4, (some .int))
abbrev HL_envied : List (Nat × Nat × Nat × Nat) := [(0, 9, 12, 19)]
theorem sx_envied : SX_ RL 240 yL_envied ML_envied HL_envied 3 := ⟨tb_in 122 (by decide +kernel) (by decide +kernel), tb_in 1372 (by decide +kernel) (by decide +kernel), ⟨by decide +kernel, by decide +kernel⟩, np_len (by decide +kernel), tb_in 1370 (by decide +kernel) (by decide +kernel), tb_in 1371 (by decide +kernel) (by decide +kernel)⟩
set_option maxRecDepth 100000 in
set_option maxHeartbeats 4000000 in
theorem w_envied {p : Int} (hd : 15 ≤ d) (hbc : 700 ≤ bc) (hbs : 1400 ≤ bs) (C : CR_ h z) (B : B5_ h) (hp : inI p) (k : MKC_ Q h (op_envied z p).2.2 (op_envied z p).1 (op_envied z p).2.1) : CW_ (.codeWith yL_envied ML_envied.2.1 ML_envied.2.2.1 ML_envied.2.2.2 HL_envied) yL_envied d bc bs [(2, 0), (0, p), (2, 224)] nN h Q := by
  refine s_enterH (M := ML_envied) pn_L rfl (Nat.le_of_ble_eq_true rfl) (L := [(2, _), (0, _), (2, _), (9, _)]) rfl ?_
  refine s_aload_n dL_envied_0 rfl ?_
  refine s_iconst dL_envied_1 ?_
  refine s_aload_n dL_envied_2 rfl ?_
  refine s_iload_n dL_envied_3 rfl ?_
  refine e_callVH (d' := d - 1) (bc' := bc) (bs' := bs) (as := [_]) (EX := EX_ Q [("java/lang/IndexOutOfBoundsException", 1)]) dL_envied_4 vf_L_109 (dd_ (by omega) (by decide)) ⟨Nat.le_refl _, Nat.le_refl _⟩ rfl rfl (Nat.le_of_ble_eq_true rfl) kl_6 rfl io_0 ?_ ?_
  · refine c_X8_envied (by omega) (by omega) (by omega) C (by assumption) (fun a1 a2 h1 C1 f1 => ?_) (fun a1 h1 C1 f1 => ?_)
    · have k9 := k
      unfold op_envied at k9
      rw [if_pos (by first | assumption | omega | exact ⟨a1, a2⟩)] at k9
      refine s_i2lW dL_envied_7 ?_
      refine s_lastoreG dL_envied_8 io_224 (by decide) (by decide) C1.1 (i3_in _) (fun hG2 => ?_)
      refine s_goto (tgt := 15) dL_envied_9 (by decide) ?_
      refine s_iconst dL_envied_15 ?_
      refine s_ireturn dL_envied_16 rfl ?_
      exact k9 _ (cr_put C1 hG2) (b5_put (b5_lo B (fun y => f1 195 y (by omega)))) (fl_put (fun x y a => f1 x y (by omega)) _) (fun _ => hs_eq _ _ _ _)
    · have k9 := k
      unfold op_envied at k9
      rw [if_neg (by first | omega | assumption | (intro q; exact absurd q (by assumption)))] at k9
      exact ⟨rfl, 1, by simp [vy_X], k9 h1 C1 (b5_lo B (fun y => f1 195 y (by omega))) (fl_id (fun x y a => f1 x y (by omega))) (fun q => absurd (show (1 : Int) = 0 from q) (by decide))⟩
  · rintro E9 N' h1 ⟨rfl, K, hm, hq⟩
    simp only [List.mem_cons, List.not_mem_nil, or_false, Prod.mk.injEq] at hm
    obtain ⟨rfl, rfl⟩ := hm
    · refine ⟨12, 3, 1, ⟨[], (0, 9, 12, 19), [], _, rfl, fun z hz => absurd hz List.not_mem_nil, by decide, by decide, by decide, kl_L_19, ka_L_19, rfl⟩, Or.inl ⟨3, rfl, rfl, dL_envied_12⟩, by decide, rfl, ?_⟩
      refine s_iconst dL_envied_13 ?_
      exact s_ireturn dL_envied_14 rfl hq
abbrev ML_write : PM := (RL, cL_write, 4, (some .int))
abbrev HL_write : List (Nat × Nat × Nat × Nat) := [(0, 9, 12, 19)]
theorem sx_write : SX_ RL 243 yL_write ML_write HL_write 3 := ⟨tb_in 122 (by decide +kernel) (by decide +kernel), tb_in 1379 (by decide +kernel) (by decide +kernel), ⟨by decide +kernel, by decide +kernel⟩, np_len (by decide +kernel), tb_in 1377 (by decide +kernel) (by decide +kernel), tb_in 1378 (by decide +kernel) (by decide +kernel)⟩
set_option maxRecDepth 100000 in
set_option maxHeartbeats 4000000 in
theorem w_write {p : Int} (hd : 15 ≤ d) (hbc : 700 ≤ bc) (hbs : 1400 ≤ bs) (C : CR_ h z) (B : B5_ h) (hp : inI p) (k : MKC_ Q h (op_write z p).2.2 (op_write z p).1 (op_write z p).2.1) : CW_ (.codeWith yL_write ML_write.2.1 ML_write.2.2.1 ML_write.2.2.2 HL_write) yL_write d bc bs [(2, 0), (0, p), (2, 224)] nN h Q := by
  refine s_enterH (M := ML_write) pn_L rfl (Nat.le_of_ble_eq_true rfl) (L := [(2, _), (0, _), (2, _), (9, _)]) rfl ?_
  refine s_aload_n dL_write_0 rfl ?_
  refine s_iconst dL_write_1 ?_
  refine s_aload_n dL_write_2 rfl ?_
  refine s_iload_n dL_write_3 rfl ?_
  refine e_callVH (d' := d - 1) (bc' := bc) (bs' := bs) (as := [_]) (EX := EX_ Q [("java/lang/IndexOutOfBoundsException", 1)]) dL_write_4 vf_L_112 (dd_ (by omega) (by decide)) ⟨Nat.le_refl _, Nat.le_refl _⟩ rfl rfl (Nat.le_of_ble_eq_true rfl) kl_6 rfl io_0 ?_ ?_
  · refine c_X8_write (by omega) (by omega) (by omega) C B (by obtain ⟨⟨b1, b2⟩, -⟩ := B; unfold PT_; omega) (by assumption) (fun a1 a2 h1 C1 B1 f1 => ?_) (fun a1 h1 C1 f1 => ?_)
    · have k9 := k
      unfold op_write at k9
      rw [if_pos (by first | assumption | omega | exact ⟨a1, a2⟩)] at k9
      refine s_i2lW dL_write_7 ?_
      refine s_lastoreG dL_write_8 io_224 (by decide) (by decide) C1.1 (i3_in _) (fun hG2 => ?_)
      refine s_goto (tgt := 15) dL_write_9 (by decide) ?_
      refine s_iconst dL_write_15 ?_
      refine s_ireturn dL_write_16 rfl ?_
      exact k9 _ (cr_put C1 hG2) (b5_put B1) (fl_put f1 _) (fun _ => hs_eq _ _ _ _)
    · have k9 := k
      unfold op_write at k9
      rw [if_neg (by first | omega | assumption | (intro q; exact absurd q (by assumption)))] at k9
      exact ⟨rfl, 1, by simp [vy_X], k9 h1 C1 (b5_lo B (fun y => f1 195 y (by omega))) (fl_id (fun x y a => f1 x y (by omega))) (fun q => absurd (show (1 : Int) = 0 from q) (by decide))⟩
  · rintro E9 N' h1 ⟨rfl, K, hm, hq⟩
    simp only [List.mem_cons, List.not_mem_nil, or_false, Prod.mk.injEq] at hm
    obtain ⟨rfl, rfl⟩ := hm
    · refine ⟨12, 3, 1, ⟨[], (0, 9, 12, 19), [], _, rfl, fun z hz => absurd hz List.not_mem_nil, by decide, by decide, by decide, kl_L_19, ka_L_19, rfl⟩, Or.inl ⟨3, rfl, rfl, dL_write_12⟩, by decide, rfl, ?_⟩
      refine s_iconst dL_write_13 ?_
      exact s_ireturn dL_write_14 rfl hq
end LWC
