/-! the reference reads: blanks, words, numbers, ends -/
/-- the reference is reading text T of n bytes -/
def RN_ (n : Int) (T : Int → Int) (h : PH) : Prop := G h ∧ h 196 15 = n ∧ (0 ≤ h 196 16 ∧ h 196 16 ≤ n) ∧ n ≤ 400 ∧ ∀ k : Int, 0 ≤ k → k < n → h (196 + 9) k = T k
/-- where it reads alone has changed -/
def AT_ (h h1 : PH) : Prop := ∀ x y : Int, ¬ (x = 196 ∧ y = 16) → h1 x y = h x y
theorem AT_.rf (h : PH) : AT_ h h := fun _ _ _ => rfl
theorem AT_.tr {h h1 h2 : PH} (a : AT_ h h1) (b : AT_ h1 h2) : AT_ h h2 := fun x y c => (b x y c).trans (a x y c)
theorem rn_at {n : Int} {T : Int → Int} {h h1 : PH} (R : RN_ n T h) (g : G h1) (f : AT_ h h1) (b : 0 ≤ h1 196 16 ∧ h1 196 16 ≤ n) : RN_ n T h1 :=
  ⟨g, (f _ _ (by omega)).trans R.2.1, b, R.2.2.2.1, fun k a c => (f _ _ (by omega)).trans (R.2.2.2.2 k a c)⟩
/-- what stands at s -/
def hc_ (T : Int → Int) (n s : Int) : Int := if s < n then T s % 256 else -1
theorem txb_24 : ∀ j : Nat, j < 23 → txb_ (24 + j) = txb_ j := by decide +kernel
theorem iw_24 {T : Int → Int} {s l : Int} {j : Nat} (hj : j < 23) : iw_ T s l (24 + j) ↔ iw_ T s l j := by
  unfold iw_
  rw [txb_24 j hj]
section X9O
variable {d bc bs : Nat} {Q : PQ} {h h0 : PH} {n : Int} {T : Int → Int}
set_option maxRecDepth 100000 in
set_option maxHeartbeats 4000000 in
theorem lp_X9_here {e : Int} (K : ∀ h : PH, RN_ n T h → AT_ h0 h → h 196 16 = e → S_ MX9_here d bc bs Q 66 [(2, 196)] [] nN h) : ∀ (m : Nat) (h : PH), (h 196 16 + m = n) → (RN_ n T h) → (AT_ h0 h) → (nb_ T n (h 196 16) = e) → S_ MX9_here d bc bs Q 0 [(2, 196)] [] nN h := by
  intro m
  induction m with
  | zero =>
    intro h am R fa he
    have hG := R.1
    have e15 := R.2.1
    have ab := R.2.2.1
    have n4 := R.2.2.2.1
    have te : h 196 16 < n → h (196 + 9) (h 196 16) = T (h 196 16) := fun c => R.2.2.2.2 _ ab.1 c
    refine s_aload_n dX9_here_0 rfl ?_
    refine s_geti dX9_here_1 fl_X9_104 kl_7 (by decide) rfl io_196 (z := 16) rfl ?_
    refine s_aload_n dX9_here_4 rfl ?_
    refine s_geti dX9_here_5 fl_X9_107 kl_7 (by decide) rfl io_196 (z := 15) rfl ?_
    refine s_icmp_ge (tgt := 66) dX9_here_8 (by decide) (by first | exact hG.2 _ _ | exact b01_in _ | assumption | exact ⟨by omega, by omega⟩) (by first | exact hG.2 _ _ | exact b01_in _ | assumption | exact ⟨by omega, by omega⟩) (fun c1 => ?_) (fun c1 => ?_)
    · refine K h R fa ?_
      rw [← he]
      unfold nb_
      exact (ru_st (P := (fun i => T i = 32 ∨ T i = 10 ∨ T i = 9)) (fun q => by have q1 := q.1; have q2 := q.2; omega)).symm
    · exact absurd c1 (by omega)
  | succ m ih =>
    intro h am R fa he
    have hG := R.1
    have e15 := R.2.1
    have ab := R.2.2.1
    have n4 := R.2.2.2.1
    have te : h 196 16 < n → h (196 + 9) (h 196 16) = T (h 196 16) := fun c => R.2.2.2.2 _ ab.1 c
    refine s_aload_n dX9_here_0 rfl ?_
    refine s_geti dX9_here_1 fl_X9_104 kl_7 (by decide) rfl io_196 (z := 16) rfl ?_
    refine s_aload_n dX9_here_4 rfl ?_
    refine s_geti dX9_here_5 fl_X9_107 kl_7 (by decide) rfl io_196 (z := 15) rfl ?_
    refine s_icmp_ge (tgt := 66) dX9_here_8 (by decide) (by first | exact hG.2 _ _ | exact b01_in _ | assumption | exact ⟨by omega, by omega⟩) (by first | exact hG.2 _ _ | exact b01_in _ | assumption | exact ⟨by omega, by omega⟩) (fun c1 => ?_) (fun c1 => ?_)
    · exact absurd c1 (by omega)
    · refine s_aload_n dX9_here_11 rfl ?_
      refine s_getr dX9_here_12 fl_X9_35 kl_7 (by decide) rfl io_196 (z := 13) rfl (rf_7_13 hG.1 io_196) (rk_7_13 io_196).1 ?_
      refine s_aload_n dX9_here_15 rfl ?_
      refine s_geti dX9_here_16 fl_X9_104 kl_7 (by decide) rfl io_196 (z := 16) rfl ?_
      refine s_baload1 dX9_here_19 (rk_7_13 io_196) (by omega) (by omega) ?_
      refine s_bipush dX9_here_20 (by decide) ?_
      refine s_icmp_eq (tgt := 53) dX9_here_22 (by decide) (by first | exact hG.2 _ _ | exact b01_in _ | assumption | exact ⟨by omega, by omega⟩) (by first | exact hG.2 _ _ | exact b01_in _ | assumption | exact ⟨by omega, by omega⟩) (fun c2 => ?_) (fun c2 => ?_)
      · refine s_aload_n dX9_here_53 rfl ?_
        refine s_dup dX9_here_54 rfl ?_
        refine s_geti dX9_here_55 fl_X9_104 kl_7 (by decide) rfl io_196 (z := 16) rfl ?_
        refine s_iconst dX9_here_58 ?_
        refine s_iadd dX9_here_59 ?_
        refine s_putiG 16 dX9_here_60 fl_X9_104 kl_7 (by decide) rfl rfl io_196 (z := 16) rfl (by decide +kernel) hG (by first | exact hG.2 _ _ | exact b01_in _ | assumption | exact ⟨by omega, by omega⟩) (fun hG1 => ?_)
        refine s_goto (tgt := 0) dX9_here_63 (by decide) ?_
        refine ih _ (by rw [hs_eq]; omega) (rn_at R hG1 (fun x y c => hs_ne _ c) (by rw [hs_eq]; omega)) (fa.tr (fun x y c => hs_ne _ c)) ?_
        rw [hs_eq, ← he]
        unfold nb_
        exact (ru_up (P := (fun i => T i = 32 ∨ T i = 10 ∨ T i = 9)) (by omega) (by omega)).symm
      · refine s_aload_n dX9_here_25 rfl ?_
        refine s_getr dX9_here_26 fl_X9_35 kl_7 (by decide) rfl io_196 (z := 13) rfl (rf_7_13 hG.1 io_196) (rk_7_13 io_196).1 ?_
        refine s_aload_n dX9_here_29 rfl ?_
        refine s_geti dX9_here_30 fl_X9_104 kl_7 (by decide) rfl io_196 (z := 16) rfl ?_
        refine s_baload1 dX9_here_33 (rk_7_13 io_196) (by omega) (by omega) ?_
        refine s_bipush dX9_here_34 (by decide) ?_
        refine s_icmp_eq (tgt := 53) dX9_here_36 (by decide) (by first | exact hG.2 _ _ | exact b01_in _ | assumption | exact ⟨by omega, by omega⟩) (by first | exact hG.2 _ _ | exact b01_in _ | assumption | exact ⟨by omega, by omega⟩) (fun c3 => ?_) (fun c3 => ?_)
        · refine s_aload_n dX9_here_53 rfl ?_
          refine s_dup dX9_here_54 rfl ?_
          refine s_geti dX9_here_55 fl_X9_104 kl_7 (by decide) rfl io_196 (z := 16) rfl ?_
          refine s_iconst dX9_here_58 ?_
          refine s_iadd dX9_here_59 ?_
          refine s_putiG 16 dX9_here_60 fl_X9_104 kl_7 (by decide) rfl rfl io_196 (z := 16) rfl (by decide +kernel) hG (by first | exact hG.2 _ _ | exact b01_in _ | assumption | exact ⟨by omega, by omega⟩) (fun hG2 => ?_)
          refine s_goto (tgt := 0) dX9_here_63 (by decide) ?_
          refine ih _ (by rw [hs_eq]; omega) (rn_at R hG2 (fun x y c => hs_ne _ c) (by rw [hs_eq]; omega)) (fa.tr (fun x y c => hs_ne _ c)) ?_
          rw [hs_eq, ← he]
          unfold nb_
          exact (ru_up (P := (fun i => T i = 32 ∨ T i = 10 ∨ T i = 9)) (by omega) (by omega)).symm
        · refine s_aload_n dX9_here_39 rfl ?_
          refine s_getr dX9_here_40 fl_X9_35 kl_7 (by decide) rfl io_196 (z := 13) rfl (rf_7_13 hG.1 io_196) (rk_7_13 io_196).1 ?_
          refine s_aload_n dX9_here_43 rfl ?_
          refine s_geti dX9_here_44 fl_X9_104 kl_7 (by decide) rfl io_196 (z := 16) rfl ?_
          refine s_baload1 dX9_here_47 (rk_7_13 io_196) (by omega) (by omega) ?_
          refine s_bipush dX9_here_48 (by decide) ?_
          refine s_icmp_ne (tgt := 66) dX9_here_50 (by decide) (by first | exact hG.2 _ _ | exact b01_in _ | assumption | exact ⟨by omega, by omega⟩) (by first | exact hG.2 _ _ | exact b01_in _ | assumption | exact ⟨by omega, by omega⟩) (fun c4 => ?_) (fun c4 => ?_)
          · refine K h R fa ?_
            rw [← he]
            unfold nb_
            exact (ru_st (P := (fun i => T i = 32 ∨ T i = 10 ∨ T i = 9)) (fun q => by have q1 := q.1; have q2 := q.2; omega)).symm
          · refine s_aload_n dX9_here_53 rfl ?_
            refine s_dup dX9_here_54 rfl ?_
            refine s_geti dX9_here_55 fl_X9_104 kl_7 (by decide) rfl io_196 (z := 16) rfl ?_
            refine s_iconst dX9_here_58 ?_
            refine s_iadd dX9_here_59 ?_
            refine s_putiG 16 dX9_here_60 fl_X9_104 kl_7 (by decide) rfl rfl io_196 (z := 16) rfl (by decide +kernel) hG (by first | exact hG.2 _ _ | exact b01_in _ | assumption | exact ⟨by omega, by omega⟩) (fun hG3 => ?_)
            refine s_goto (tgt := 0) dX9_here_63 (by decide) ?_
            refine ih _ (by rw [hs_eq]; omega) (rn_at R hG3 (fun x y c => hs_ne _ c) (by rw [hs_eq]; omega)) (fa.tr (fun x y c => hs_ne _ c)) ?_
            rw [hs_eq, ← he]
            unfold nb_
            exact (ru_up (P := (fun i => T i = 32 ∨ T i = 10 ∨ T i = 9)) (by omega) (by omega)).symm
set_option maxRecDepth 100000 in
set_option maxHeartbeats 4000000 in
theorem c_X9_here (R : RN_ n T h) (k : ∀ h1 : PH, RN_ n T h1 → AT_ h h1 → h1 196 16 = nb_ T n (h 196 16) → Q.1 (some (0, hc_ T n (nb_ T n (h 196 16)))) nN h1) : Cl_ yX9_here MX9_here d bc bs [(2, 196)] nN h Q := by
  refine s_enter pn_X9 rfl (Nat.le_of_ble_eq_true rfl) (L := [(2, _)]) rfl ?_
  refine lp_X9_here (h0 := h) (e := nb_ T n (h 196 16)) (fun h1 R1 f1 e16 => ?_) (n - h 196 16).toNat h (by have := R.2.2.1; omega) R (AT_.rf h) rfl
  have hG := R1.1
  have e15 := R1.2.1
  have ab := R1.2.2.1
  have n4 := R1.2.2.2.1
  have te : h1 196 16 < n → h1 (196 + 9) (h1 196 16) = T (h1 196 16) := fun c => R1.2.2.2.2 _ ab.1 c
  refine s_aload_n dX9_here_66 rfl ?_
  refine s_geti dX9_here_67 fl_X9_104 kl_7 (by decide) rfl io_196 (z := 16) rfl ?_
  refine s_aload_n dX9_here_70 rfl ?_
  refine s_geti dX9_here_71 fl_X9_107 kl_7 (by decide) rfl io_196 (z := 15) rfl ?_
  refine s_icmp_ge (tgt := 93) dX9_here_74 (by decide) (by first | exact hG.2 _ _ | exact b01_in _ | assumption | exact ⟨by omega, by omega⟩) (by first | exact hG.2 _ _ | exact b01_in _ | assumption | exact ⟨by omega, by omega⟩) (fun c1 => ?_) (fun c1 => ?_)
  · refine s_iconst dX9_here_93 ?_
    exact s_ireturn dX9_here_94 rfl (q_val (by rw [← e16]; exact if_neg (by omega)) (k h1 R1 f1 e16))
  · refine s_aload_n dX9_here_77 rfl ?_
    refine s_getr dX9_here_78 fl_X9_35 kl_7 (by decide) rfl io_196 (z := 13) rfl (rf_7_13 hG.1 io_196) (rk_7_13 io_196).1 ?_
    refine s_aload_n dX9_here_81 rfl ?_
    refine s_geti dX9_here_82 fl_X9_104 kl_7 (by decide) rfl io_196 (z := 16) rfl ?_
    refine s_baload1 dX9_here_85 (rk_7_13 io_196) (by omega) (by omega) ?_
    refine s_sipush dX9_here_86 (by decide) ?_
    refine s_iand 8 dX9_here_89 (by decide) (by decide) (z := 256) (by decide) ?_
    refine s_goto (tgt := 94) dX9_here_90 (by decide) ?_
    exact s_ireturn dX9_here_94 rfl (q_val (by rw [← e16, te (by omega)]; exact if_pos (by omega)) (k h1 R1 f1 e16))
set_option maxRecDepth 100000 in
set_option maxHeartbeats 4000000 in
theorem c_X9_isWrong  (hG : G h) (k : Q.1 (some (0, b01 (¬ h 196 17 = -1))) nN h) : Cl_ yX9_isWrong MX9_isWrong d bc bs [(2, 196)] nN h Q := by
  refine s_enter pn_X9 rfl (Nat.le_of_ble_eq_true rfl) (L := [(2, _)]) rfl ?_
  refine s_aload_n dX9_isWrong_0 rfl ?_
  refine s_geti dX9_isWrong_1 fl_X9_39 kl_7 (by decide) rfl io_196 (z := 17) rfl ?_
  refine s_iconst dX9_isWrong_4 ?_
  refine s_icmp_eq (tgt := 12) dX9_isWrong_5 (by decide) (by first | exact hG.2 _ _ | exact b01_in _ | assumption | exact ⟨by omega, by omega⟩) (by first | exact hG.2 _ _ | exact b01_in _ | assumption | exact ⟨by omega, by omega⟩) (fun c1 => ?_) (fun c1 => ?_)
  · refine s_iconst dX9_isWrong_12 ?_
    refine s_zreturn dX9_isWrong_13 rfl (by first | exact Or.inl rfl | exact Or.inr rfl) ?_
    first | (rw [b01_t (c := ¬ h 196 17 = -1) (by first | exact c1 | simpa using c1)] at k; exact k) | (rw [b01_f (c := ¬ h 196 17 = -1) (by first | exact c1 | simpa using c1)] at k; exact k)
  · refine s_iconst dX9_isWrong_8 ?_
    refine s_goto (tgt := 13) dX9_isWrong_9 (by decide) ?_
    refine s_zreturn dX9_isWrong_13 rfl (by first | exact Or.inl rfl | exact Or.inr rfl) ?_
    first | (rw [b01_t (c := ¬ h 196 17 = -1) (by first | exact c1 | simpa using c1)] at k; exact k) | (rw [b01_f (c := ¬ h 196 17 = -1) (by first | exact c1 | simpa using c1)] at k; exact k)
set_option maxRecDepth 100000 in
set_option maxHeartbeats 4000000 in
theorem c_X9_wrong {p : Int} (hG : G h) (hp : inI p) (k : ∀ h1 : PH, G h1 → (∀ x y : Int, ¬ (x = 196 ∧ y = 17) → h1 x y = h x y) → h1 196 17 = (if h 196 17 = -1 then p else h 196 17) → Q.1 none nN h1) : Cl_ yX9_wrong MX9_wrong d bc bs [(2, 196), (0, p)] nN h Q := by
  refine s_enter pn_X9 rfl (Nat.le_of_ble_eq_true rfl) (L := [(2, _), (0, _)]) rfl ?_
  refine s_aload_n dX9_wrong_0 rfl ?_
  refine s_aload_n dX9_wrong_1 rfl ?_
  refine s_geti dX9_wrong_2 fl_X9_39 kl_7 (by decide) rfl io_196 (z := 17) rfl ?_
  refine s_iconst dX9_wrong_5 ?_
  refine s_icmp_ne (tgt := 13) dX9_wrong_6 (by decide) (by first | exact hG.2 _ _ | exact b01_in _ | assumption | exact ⟨by omega, by omega⟩) (by first | exact hG.2 _ _ | exact b01_in _ | assumption | exact ⟨by omega, by omega⟩) (fun c1 => ?_) (fun c1 => ?_)
  · refine s_aload_n dX9_wrong_13 rfl ?_
    refine s_geti dX9_wrong_14 fl_X9_39 kl_7 (by decide) rfl io_196 (z := 17) rfl ?_
    refine s_putiG 17 dX9_wrong_17 fl_X9_39 kl_7 (by decide) rfl rfl io_196 (z := 17) rfl (by decide +kernel) hG (by first | exact hG.2 _ _ | exact b01_in _ | assumption | exact ⟨by omega, by omega⟩) (fun hG1 => ?_)
    refine s_return dX9_wrong_20 rfl (k _ hG1 (fun x y c => hs_ne _ c) ?_)
    rw [hs_eq]
    first | exact (if_pos (by omega)).symm | exact (if_neg (by omega)).symm
  · refine s_iload_n dX9_wrong_9 rfl ?_
    refine s_goto (tgt := 17) dX9_wrong_10 (by decide) ?_
    refine s_putiG 17 dX9_wrong_17 fl_X9_39 kl_7 (by decide) rfl rfl io_196 (z := 17) rfl (by decide +kernel) hG (by first | exact hG.2 _ _ | exact b01_in _ | assumption | exact ⟨by omega, by omega⟩) (fun hG2 => ?_)
    refine s_return dX9_wrong_20 rfl (k _ hG2 (fun x y c => hs_ne _ c) ?_)
    rw [hs_eq]
    first | exact (if_pos (by omega)).symm | exact (if_neg (by omega)).symm
set_option maxRecDepth 100000 in
set_option maxHeartbeats 4000000 in
theorem lp_X9_wordLong {s e : Int} (R : RN_ n T h) (hs : h 196 16 = s) (k : Q.1 (some (0, e - s)) nN h) : ∀ (m : Nat) (i : Int), (s ≤ i) → (i + m = n) → (we_ T n i = e) → S_ MX9_wordLong d bc bs Q 10 [(2, 196), (0, i)] [] nN h := by
  intro m
  induction m with
  | zero =>
    intro i is im he
    have hG := R.1
    have e15 := R.2.1
    have ab := R.2.2.1
    have n4 := R.2.2.2.1
    have te : i < n → h (196 + 9) i = T i := fun c => R.2.2.2.2 _ (by omega) c
    refine s_iload_n dX9_wordLong_10 rfl ?_
    refine s_aload_n dX9_wordLong_11 rfl ?_
    refine s_geti dX9_wordLong_12 fl_X9_107 kl_7 (by decide) rfl io_196 (z := 15) rfl ?_
    refine s_icmp_ge (tgt := 46) dX9_wordLong_15 (by decide) (by first | exact hG.2 _ _ | exact b01_in _ | assumption | exact ⟨by omega, by omega⟩) (by first | exact hG.2 _ _ | exact b01_in _ | assumption | exact ⟨by omega, by omega⟩) (fun c1 => ?_) (fun c1 => ?_)
    · refine s_iload_n dX9_wordLong_46 rfl ?_
      refine s_aload_n dX9_wordLong_47 rfl ?_
      refine s_geti dX9_wordLong_48 fl_X9_104 kl_7 (by decide) rfl io_196 (z := 16) rfl ?_
      refine s_isub dX9_wordLong_51 ?_
      refine s_ireturn dX9_wordLong_52 rfl (q_val ?_ k)
      rw [← he, ← hs]
      unfold we_
      rw [ru_st (P := (fun i => 97 ≤ T i ∧ T i ≤ 122)) (fun q => by have q1 := q.1; have q2 := q.2.1; have q3 := q.2.2; omega)]
    · exact absurd c1 (by omega)
  | succ m ih =>
    intro i is im he
    have hG := R.1
    have e15 := R.2.1
    have ab := R.2.2.1
    have n4 := R.2.2.2.1
    have te : i < n → h (196 + 9) i = T i := fun c => R.2.2.2.2 _ (by omega) c
    refine s_iload_n dX9_wordLong_10 rfl ?_
    refine s_aload_n dX9_wordLong_11 rfl ?_
    refine s_geti dX9_wordLong_12 fl_X9_107 kl_7 (by decide) rfl io_196 (z := 15) rfl ?_
    refine s_icmp_ge (tgt := 46) dX9_wordLong_15 (by decide) (by first | exact hG.2 _ _ | exact b01_in _ | assumption | exact ⟨by omega, by omega⟩) (by first | exact hG.2 _ _ | exact b01_in _ | assumption | exact ⟨by omega, by omega⟩) (fun c1 => ?_) (fun c1 => ?_)
    · exact absurd c1 (by omega)
    · refine s_aload_n dX9_wordLong_18 rfl ?_
      refine s_getr dX9_wordLong_19 fl_X9_35 kl_7 (by decide) rfl io_196 (z := 13) rfl (rf_7_13 hG.1 io_196) (rk_7_13 io_196).1 ?_
      refine s_iload_n dX9_wordLong_22 rfl ?_
      refine s_baload1 dX9_wordLong_23 (rk_7_13 io_196) (by omega) (by omega) ?_
      refine s_bipush dX9_wordLong_24 (by decide) ?_
      refine s_icmp_lt (tgt := 46) dX9_wordLong_26 (by decide) (by first | exact hG.2 _ _ | exact b01_in _ | assumption | exact ⟨by omega, by omega⟩) (by first | exact hG.2 _ _ | exact b01_in _ | assumption | exact ⟨by omega, by omega⟩) (fun c2 => ?_) (fun c2 => ?_)
      · refine s_iload_n dX9_wordLong_46 rfl ?_
        refine s_aload_n dX9_wordLong_47 rfl ?_
        refine s_geti dX9_wordLong_48 fl_X9_104 kl_7 (by decide) rfl io_196 (z := 16) rfl ?_
        refine s_isub dX9_wordLong_51 ?_
        refine s_ireturn dX9_wordLong_52 rfl (q_val ?_ k)
        rw [← he, ← hs]
        unfold we_
        rw [ru_st (P := (fun i => 97 ≤ T i ∧ T i ≤ 122)) (fun q => by have q1 := q.1; have q2 := q.2.1; have q3 := q.2.2; omega)]
      · refine s_aload_n dX9_wordLong_29 rfl ?_
        refine s_getr dX9_wordLong_30 fl_X9_35 kl_7 (by decide) rfl io_196 (z := 13) rfl (rf_7_13 hG.1 io_196) (rk_7_13 io_196).1 ?_
        refine s_iload_n dX9_wordLong_33 rfl ?_
        refine s_baload1 dX9_wordLong_34 (rk_7_13 io_196) (by omega) (by omega) ?_
        refine s_bipush dX9_wordLong_35 (by decide) ?_
        refine s_icmp_gt (tgt := 46) dX9_wordLong_37 (by decide) (by first | exact hG.2 _ _ | exact b01_in _ | assumption | exact ⟨by omega, by omega⟩) (by first | exact hG.2 _ _ | exact b01_in _ | assumption | exact ⟨by omega, by omega⟩) (fun c3 => ?_) (fun c3 => ?_)
        · refine s_iload_n dX9_wordLong_46 rfl ?_
          refine s_aload_n dX9_wordLong_47 rfl ?_
          refine s_geti dX9_wordLong_48 fl_X9_104 kl_7 (by decide) rfl io_196 (z := 16) rfl ?_
          refine s_isub dX9_wordLong_51 ?_
          refine s_ireturn dX9_wordLong_52 rfl (q_val ?_ k)
          rw [← he, ← hs]
          unfold we_
          rw [ru_st (P := (fun i => 97 ≤ T i ∧ T i ≤ 122)) (fun q => by have q1 := q.1; have q2 := q.2.1; have q3 := q.2.2; omega)]
        · refine s_iinc dX9_wordLong_40 rfl (by decide) rfl (L' := [_, _]) rfl ?_
          refine s_goto (tgt := 10) dX9_wordLong_43 (by decide) ?_
          refine ih (i + 1) (by omega) (by omega) ?_
          rw [← he]
          unfold we_
          exact (ru_up (P := (fun i => 97 ≤ T i ∧ T i ≤ 122)) (by omega) ⟨by omega, by omega⟩).symm
set_option maxRecDepth 100000 in
set_option maxHeartbeats 4000000 in
theorem c_X9_wordLong  (hd : 1 ≤ d) (R : RN_ n T h) (k : ∀ h1 : PH, RN_ n T h1 → AT_ h h1 → h1 196 16 = nb_ T n (h 196 16) → Q.1 (some (0, wl__ T n (h 196 16))) nN h1) : Cl_ yX9_wordLong MX9_wordLong d bc bs [(2, 196)] nN h Q := by
  refine s_enter pn_X9 rfl (Nat.le_of_ble_eq_true rfl) (L := [(2, _), (9, 0)]) rfl ?_
  have hG := R.1
  have e15 := R.2.1
  have ab := R.2.2.1
  have n4 := R.2.2.2.1
  refine s_aload_n dX9_wordLong_0 rfl ?_
  refine s_callV (d' := d - 1) (bc' := 0) (bs' := 0) (as := []) dX9_wordLong_1 vf_X9_110 (dd_ (by omega) (by decide)) ⟨Nat.zero_le _, Nat.zero_le _⟩ rfl rfl (Nat.le_of_ble_eq_true rfl) kl_7 rfl io_196 ?_
  refine c_X9_here R (fun hhG1 RhG1 fhG1 ehG1 => ?_)
  have hG1 := RhG1.1
  have hG := hG1
  have R1 := RhG1
  have e15 := RhG1.2.1
  have ab1 := RhG1.2.2.1
  refine s_pop dX9_wordLong_4 rfl ?_
  refine s_aload_n dX9_wordLong_5 rfl ?_
  refine s_geti dX9_wordLong_6 fl_X9_104 kl_7 (by decide) rfl io_196 (z := 16) rfl ?_
  refine s_istore_n dX9_wordLong_9 (by decide) rfl (L' := [_, _]) rfl ?_
  exact lp_X9_wordLong R1 rfl (q_val (by unfold wl__ wn_; rw [ehG1]) (k hhG1 RhG1 fhG1 ehG1)) (n - hhG1 196 16).toNat _ (Int.le_refl _) (by omega) rfl
set_option maxRecDepth 100000 in
set_option maxHeartbeats 4000000 in
theorem lp_X9_isWord {j : Nat} {s l : Int} (hj : j < 49) (hd : 4 ≤ d) (R : RN_ n T h) (hs : h 196 16 = s) (l0 : 0 ≤ l) (l1 : s + l ≤ n) (hl : l = (txb_ j).length) (k : Q.1 (some (0, b01 (iw_ T s l j))) nN h) : ∀ (m : Nat) (i : Int), (0 ≤ i) → (i + m = l) → (∀ q : Int, 0 ≤ q → q < i → T (s + q) = (txb_ j).getD q.toNat 0) → S_ MX9_isWord d bc bs Q 22 [(2, 196), (2, 1000 + j), (0, i)] [] nN h := by
  intro m
  induction m with
  | zero =>
    intro i i0 im he
    have hG := R.1
    have e15 := R.2.1
    have ab := R.2.2.1
    have n4 := R.2.2.2.1
    have te : i < l → h (196 + 9) (h 196 16 + i) = T (s + i) := fun c => by rw [hs]; exact R.2.2.2.2 _ (by omega) (by omega)
    have tb := txb_bd hj i.toNat
    have hl9 := (txs_ok j hj).1
    refine s_iload_n dX9_isWord_22 rfl ?_
    refine s_aload_n dX9_isWord_23 rfl ?_
    refine e_callK (d' := d - 1) (bc' := 0) (bs' := 0) (as := []) nh_0 (kx_st hj) dX9_isWord_24 vf_X9_121 (dd_ (by omega) (by decide)) ⟨Nat.zero_le _, Nat.zero_le _⟩ rfl rfl (Nat.le_of_ble_eq_true rfl) rfl ?_
    refine c_J0_length_8abf5 hj (by omega) ?_
    refine s_icmp_ge (tgt := 57) dX9_isWord_27 (by decide) (by first | exact hG.2 _ _ | exact b01_in _ | assumption | exact ⟨by omega, by omega⟩) (by first | exact hG.2 _ _ | exact b01_in _ | assumption | exact ⟨by omega, by omega⟩) (fun c1 => ?_) (fun c1 => ?_)
    · refine s_iconst dX9_isWord_57 ?_
      exact s_zreturn dX9_isWord_58 rfl (Or.inr rfl) (q_val (b01_t (c := iw_ T s l j) ⟨hl, fun q q0 q1 => he q q0 (by omega)⟩) k)
    · exact absurd c1 (by omega)
  | succ m ih =>
    intro i i0 im he
    have hG := R.1
    have e15 := R.2.1
    have ab := R.2.2.1
    have n4 := R.2.2.2.1
    have te : i < l → h (196 + 9) (h 196 16 + i) = T (s + i) := fun c => by rw [hs]; exact R.2.2.2.2 _ (by omega) (by omega)
    have tb := txb_bd hj i.toNat
    have hl9 := (txs_ok j hj).1
    refine s_iload_n dX9_isWord_22 rfl ?_
    refine s_aload_n dX9_isWord_23 rfl ?_
    refine e_callK (d' := d - 1) (bc' := 0) (bs' := 0) (as := []) nh_0 (kx_st hj) dX9_isWord_24 vf_X9_121 (dd_ (by omega) (by decide)) ⟨Nat.zero_le _, Nat.zero_le _⟩ rfl rfl (Nat.le_of_ble_eq_true rfl) rfl ?_
    refine c_J0_length_8abf5 hj (by omega) ?_
    refine s_icmp_ge (tgt := 57) dX9_isWord_27 (by decide) (by first | exact hG.2 _ _ | exact b01_in _ | assumption | exact ⟨by omega, by omega⟩) (by first | exact hG.2 _ _ | exact b01_in _ | assumption | exact ⟨by omega, by omega⟩) (fun c1 => ?_) (fun c1 => ?_)
    · exact absurd c1 (by omega)
    · refine s_aload_n dX9_isWord_30 rfl ?_
      refine s_getr dX9_isWord_31 fl_X9_35 kl_7 (by decide) rfl io_196 (z := 13) rfl (rf_7_13 hG.1 io_196) (rk_7_13 io_196).1 ?_
      refine s_aload_n dX9_isWord_34 rfl ?_
      refine s_geti dX9_isWord_35 fl_X9_104 kl_7 (by decide) rfl io_196 (z := 16) rfl ?_
      refine s_iload_n dX9_isWord_38 rfl ?_
      refine s_iadd dX9_isWord_39 ?_
      refine s_baload1 dX9_isWord_40 (rk_7_13 io_196) (by omega) (by omega) ?_
      refine s_aload_n dX9_isWord_41 rfl ?_
      refine s_iload_n dX9_isWord_42 rfl ?_
      refine e_callK (d' := d - 1) (bc' := 0) (bs' := 0) (as := [_]) nh_0 (kx_st hj) dX9_isWord_43 vf_X9_126 (dd_ (by omega) (by decide)) ⟨Nat.zero_le _, Nat.zero_le _⟩ rfl rfl (Nat.le_of_ble_eq_true rfl) rfl ?_
      refine c_J0_charAt_5068e hj (by omega) (by omega) (by omega) ?_
      refine s_icmp_eq (tgt := 51) dX9_isWord_46 (by decide) (by first | exact hG.2 _ _ | exact b01_in _ | assumption | exact ⟨by omega, by omega⟩) (by first | exact hG.2 _ _ | exact b01_in _ | assumption | exact ⟨by omega, by omega⟩) (fun c2 => ?_) (fun c2 => ?_)
      · refine s_iinc dX9_isWord_51 rfl (by decide) rfl (L' := [_, _, _]) rfl ?_
        refine s_goto (tgt := 22) dX9_isWord_54 (by decide) ?_
        exact ih (i + 1) (by omega) (by omega) (fun q q0 q1 => (by rcases (by omega : q < i ∨ q = i) with r | r; exact he q q0 r; rw [r]; omega))
      · refine s_iconst dX9_isWord_49 ?_
        exact s_zreturn dX9_isWord_50 rfl (Or.inl rfl) (q_val (b01_f (c := iw_ T s l j) (fun z => by have z2 := z.2 i i0 (by omega); omega)) k)
set_option maxRecDepth 100000 in
set_option maxHeartbeats 4000000 in
theorem c_X9_isWord {j : Nat} (hj : j < 49) (hd : 5 ≤ d) (R : RN_ n T h) (ok : h 196 17 = -1) (k : ∀ h1 : PH, RN_ n T h1 → AT_ h h1 → h1 196 16 = nb_ T n (h 196 16) → Q.1 (some (0, b01 (iw_ T (nb_ T n (h 196 16)) (wl__ T n (h 196 16)) j))) nN h1) : Cl_ yX9_isWord MX9_isWord d bc bs [(2, 196), (2, 1000 + j)] nN h Q := by
  refine s_enter pn_X9 rfl (Nat.le_of_ble_eq_true rfl) (L := [(2, _), (2, _), (9, 0)]) rfl ?_
  have hG := R.1
  have e15 := R.2.1
  have ab := R.2.2.1
  have n4 := R.2.2.2.1
  have hl9 := (txs_ok j hj).1
  have nbb := nb_bd (T := T) ab.2
  have web := we_bd (T := T) nbb.2
  have wlb : 0 ≤ wl__ T n (h 196 16) ∧ wl__ T n (h 196 16) ≤ 400 := by unfold wl__ wn_; omega
  refine s_aload_n dX9_isWord_0 rfl ?_
  refine s_callV (d' := d - 1) (bc' := 0) (bs' := 0) (as := []) dX9_isWord_1 vf_X9_114 (dd_ (by omega) (by decide)) ⟨Nat.zero_le _, Nat.zero_le _⟩ rfl rfl (Nat.le_of_ble_eq_true rfl) kl_7 rfl io_196 ?_
  refine c_X9_isWrong hG ?_
  refine s_if_ne (tgt := 18) dX9_isWord_4 (by decide) (by first | exact hG.2 _ _ | exact b01_in _ | assumption | exact ⟨by omega, by omega⟩) (fun c1 => ?_) (fun c1 => ?_)
  · exact absurd ok (b01_n.mp c1)
  · have c1 := b01_0.mp c1
    refine s_aload_n dX9_isWord_7 rfl ?_
    refine s_callV (d' := d - 1) (bc' := 0) (bs' := 0) (as := []) dX9_isWord_8 vf_X9_118 (dd_ (by omega) (by decide)) ⟨Nat.zero_le _, Nat.zero_le _⟩ rfl rfl (Nat.le_of_ble_eq_true rfl) kl_7 rfl io_196 ?_
    refine c_X9_wordLong (by omega) R (fun hhG1 RhG1 fhG1 ehG1 => ?_)
    have hG1 := RhG1.1
    refine s_aload_n dX9_isWord_11 rfl ?_
    refine e_callK (d' := d - 1) (bc' := 0) (bs' := 0) (as := []) nh_0 (kx_st hj) dX9_isWord_12 vf_X9_121 (dd_ (by omega) (by decide)) ⟨Nat.zero_le _, Nat.zero_le _⟩ rfl rfl (Nat.le_of_ble_eq_true rfl) rfl ?_
    refine c_J0_length_8abf5 hj (by omega) ?_
    refine s_icmp_eq (tgt := 20) dX9_isWord_15 (by decide) (by first | exact hG1.2 _ _ | exact hG.2 _ _ | exact b01_in _ | assumption | exact ⟨by omega, by omega⟩) (by first | exact hG1.2 _ _ | exact hG.2 _ _ | exact b01_in _ | assumption | exact ⟨by omega, by omega⟩) (fun c2 => ?_) (fun c2 => ?_)
    · refine s_iconst dX9_isWord_20 ?_
      refine s_istore_n dX9_isWord_21 (by decide) rfl (L' := [_, _, _]) rfl ?_
      exact lp_X9_isWord hj (by omega) RhG1 ehG1 wlb.1 (by have := web; unfold wl__ wn_; omega) (by omega) (k hhG1 RhG1 fhG1 ehG1) (wl__ T n (h 196 16)).toNat 0 (Int.le_refl _) (by omega) (fun q q0 q1 => by omega)
    · refine s_iconst dX9_isWord_18 ?_
      exact s_zreturn dX9_isWord_19 rfl (Or.inl rfl) (q_val (b01_f (c := iw_ T (nb_ T n (h 196 16)) (wl__ T n (h 196 16)) j) (fun z => by have z1 := z.1; omega)) (k hhG1 RhG1 fhG1 ehG1))
set_option maxRecDepth 100000 in
set_option maxHeartbeats 4000000 in
theorem cw_X9_isWord {a : Int} (hd : 1 ≤ d) (hG : G h) (ok : ¬ h 196 17 = -1) (k : Q.1 (some (0, 0)) nN h) : Cl_ yX9_isWord MX9_isWord d bc bs [(2, 196), (2, a)] nN h Q := by
  refine s_enter pn_X9 rfl (Nat.le_of_ble_eq_true rfl) (L := [(2, _), (2, _), (9, 0)]) rfl ?_
  refine s_aload_n dX9_isWord_0 rfl ?_
  refine s_callV (d' := d - 1) (bc' := 0) (bs' := 0) (as := []) dX9_isWord_1 vf_X9_114 (dd_ (by omega) (by decide)) ⟨Nat.zero_le _, Nat.zero_le _⟩ rfl rfl (Nat.le_of_ble_eq_true rfl) kl_7 rfl io_196 ?_
  refine c_X9_isWrong hG ?_
  refine s_if_ne (tgt := 18) dX9_isWord_4 (by decide) (by first | exact hG.2 _ _ | exact b01_in _ | assumption | exact ⟨by omega, by omega⟩) (fun c1 => ?_) (fun c1 => ?_)
  · have c1 := b01_n.mp c1
    refine s_iconst dX9_isWord_18 ?_
    exact s_zreturn dX9_isWord_19 rfl (Or.inl rfl) k
  · exact absurd (b01_0.mp c1) (fun q => q ok)
end X9O
