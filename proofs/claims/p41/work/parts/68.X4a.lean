/-! WillHouse$Reader: what is taken off the text -/
theorem nn_i {c : Prop} (h : c) : ¬ ¬ c := fun z => z h
theorem nn_e {c : Prop} (h : ¬ ¬ c) : c := Classical.byContradiction h
theorem nb_st {T : Int → Int} {n a : Int} (h : a < n → ¬ T a = 32 ∧ ¬ T a = 10 ∧ ¬ T a = 9) : nb_ T n a = a := ru_st (P := fun i => T i = 32 ∨ T i = 10 ∨ T i = 9) (fun q => by have := h q.1; have q2 : T a = 32 ∨ T a = 10 ∨ T a = 9 := q.2; omega)
theorem nb_up {T : Int → Int} {n a : Int} (h : a < n) (hp : T a = 32 ∨ T a = 10 ∨ T a = 9) : nb_ T n a = nb_ T n (a + 1) := ru_up (P := fun i => T i = 32 ∨ T i = 10 ∨ T i = 9) h hp
theorem we_st {T : Int → Int} {n a : Int} (h : a < n → ¬ (97 ≤ T a ∧ T a ≤ 122)) : we_ T n a = a := ru_st (P := fun i => 97 ≤ T i ∧ T i ≤ 122) (fun q => h q.1 q.2)
theorem we_up {T : Int → Int} {n a : Int} (h : a < n) (hp : 97 ≤ T a ∧ T a ≤ 122) : we_ T n a = we_ T n (a + 1) := ru_up (P := fun i => 97 ≤ T i ∧ T i ≤ 122) h hp
theorem de_st {T : Int → Int} {n a : Int} (h : a < n → ¬ (48 ≤ T a ∧ T a ≤ 57)) : de_ T n a = a := ru_st (P := fun i => 48 ≤ T i ∧ T i ≤ 57) (fun q => h q.1 q.2)
theorem de_up {T : Int → Int} {n a : Int} (h : a < n) (hp : 48 ≤ T a ∧ T a ≤ 57) : de_ T n a = de_ T n (a + 1) := ru_up (P := fun i => 48 ≤ T i ∧ T i ≤ 57) h hp
theorem we_le {T : Int → Int} {n a i : Int} (h : a ≤ i) (h2 : i < we_ T n a) : 97 ≤ T i ∧ T i ≤ 122 := ru_al (P := fun i => 97 ≤ T i ∧ T i ≤ 122) (n - a).toNat a i h h2
theorem wn_bd {T : Int → Int} {n a : Int} (h : a ≤ n) : a ≤ nb_ T n a ∧ nb_ T n a ≤ wn_ T n a ∧ wn_ T n a ≤ n := by
  have h1 := nb_bd (T := T) h
  have h2 := we_bd (T := T) h1.2
  unfold wn_
  omega
theorem dn_bd {T : Int → Int} {n a : Int} (h : a ≤ n) : a ≤ nb_ T n a ∧ nb_ T n a ≤ dn_ T n a ∧ dn_ T n a ≤ n := by
  have h1 := nb_bd (T := T) h
  have h2 := de_bd (T := T) h1.2
  unfold dn_
  omega
section X4H
variable {h0 h y : PH} {v n m a s : Int} {T : Int → Int}
theorem rs_at {a' x : Int} (E : EV_ h0 v n T) (R : RS_ h0 v n m a s y h) (hG : G (hs_ h 2 5 x)) (e : x = a') : RS_ h0 v n m a' s y (hs_ h 2 5 x) := by
  subst e
  have d := R.2.1
  exact rs_own E.1 R hG (fun x k hx => hs_ne _ (fun q => hx q.1)) (by rw [hs_ne _ (by omega)]; exact R.1.2.2) (by rw [hs_ne _ (by omega)]; exact d.1) (hs_eq _ _ _ _) (by rw [hs_ne _ (by omega)]; exact d.2.2.1) (by rw [hs_ne _ (by omega)]; exact d.2.2.2)
theorem rs_ss {s' x : Int} (E : EV_ h0 v n T) (R : RS_ h0 v n m a s y h) (hG : G (hs_ h 2 6 x)) (e : x = s') : RS_ h0 v n m a s' y (hs_ h 2 6 x) := by
  subst e
  have d := R.2.1
  exact rs_own E.1 R hG (fun x k hx => hs_ne _ (fun q => hx q.1)) (by rw [hs_ne _ (by omega)]; exact R.1.2.2) (by rw [hs_ne _ (by omega)]; exact d.1) (by rw [hs_ne _ (by omega)]; exact d.2.1) (hs_eq _ _ _ _) (by rw [hs_ne _ (by omega)]; exact d.2.2.2)
theorem rs_fx {f x : Int} (R : RS_ h0 v n m a s y h) (hG : G (hs_ h 2 2 x)) (e : x = f) (hf : 0 ≤ f ∧ f ≤ 400) : RX_ h0 v f (hs_ h 2 2 x) := by
  subst e
  exact rs_x R hG (fun x k hx => hs_ne _ (fun q => hx q.1)) (by rw [hs_ne _ (by omega)]; exact R.1.2.2) (hs_eq _ _ _ _) hf
theorem rs_tx (E : EV_ h0 v n T) (R : RS_ h0 v n m a s y h) (a0 : 0 ≤ a) : a < 400 → h (2 + -1) (h 2 5) = T a := fun q => by rw [R.2.1.2.1]; exact (rs_T E R a0 q).1
end X4H
section X4A
variable {d bc bs : Nat} {Q : PQ} {h0 h y : PH} {v n m a s : Int} {T : Int → Int}
set_option maxRecDepth 100000 in
set_option maxHeartbeats 4000000 in
theorem c_X4_isLetter {x : Int} (hx : inI x) (k : Q.1 (some (0, b01 (97 ≤ x ∧ x ≤ 122))) nN h) : Cl_ yX4_isLetter MX4_isLetter d bc bs [(0, x)] nN h Q := by
  refine s_enter pn_X4 rfl (Nat.le_of_ble_eq_true rfl) (L := [(0, _)]) rfl ?_
  refine s_iload_n dX4_isLetter_0 rfl ?_
  refine s_bipush dX4_isLetter_1 (by decide) ?_
  refine s_icmp_lt (tgt := 16) dX4_isLetter_3 (by decide) (by first | exact hG.2 _ _ | exact b01_in _ | assumption | exact ⟨by omega, by omega⟩) (by first | exact hG.2 _ _ | exact b01_in _ | assumption | exact ⟨by omega, by omega⟩) (fun c1 => ?_) (fun c1 => ?_)
  · refine s_iconst dX4_isLetter_16 ?_
    refine s_zreturn dX4_isLetter_17 rfl (by first | exact Or.inl rfl | exact Or.inr rfl) ?_
    first | (rw [b01_t (c := 97 ≤ x ∧ x ≤ 122) (by omega)] at k; exact k) | (rw [b01_f (c := 97 ≤ x ∧ x ≤ 122) (by omega)] at k; exact k)
  · refine s_iload_n dX4_isLetter_6 rfl ?_
    refine s_bipush dX4_isLetter_7 (by decide) ?_
    refine s_icmp_gt (tgt := 16) dX4_isLetter_9 (by decide) (by first | exact hG.2 _ _ | exact b01_in _ | assumption | exact ⟨by omega, by omega⟩) (by first | exact hG.2 _ _ | exact b01_in _ | assumption | exact ⟨by omega, by omega⟩) (fun c2 => ?_) (fun c2 => ?_)
    · refine s_iconst dX4_isLetter_16 ?_
      refine s_zreturn dX4_isLetter_17 rfl (by first | exact Or.inl rfl | exact Or.inr rfl) ?_
      first | (rw [b01_t (c := 97 ≤ x ∧ x ≤ 122) (by omega)] at k; exact k) | (rw [b01_f (c := 97 ≤ x ∧ x ≤ 122) (by omega)] at k; exact k)
    · refine s_iconst dX4_isLetter_12 ?_
      refine s_goto (tgt := 17) dX4_isLetter_13 (by decide) ?_
      refine s_zreturn dX4_isLetter_17 rfl (by first | exact Or.inl rfl | exact Or.inr rfl) ?_
      first | (rw [b01_t (c := 97 ≤ x ∧ x ≤ 122) (by omega)] at k; exact k) | (rw [b01_f (c := 97 ≤ x ∧ x ≤ 122) (by omega)] at k; exact k)
set_option maxRecDepth 100000 in
set_option maxHeartbeats 4000000 in
theorem c_X4_isDigit {x : Int} (hx : inI x) (k : Q.1 (some (0, b01 (48 ≤ x ∧ x ≤ 57))) nN h) : Cl_ yX4_isDigit MX4_isDigit d bc bs [(0, x)] nN h Q := by
  refine s_enter pn_X4 rfl (Nat.le_of_ble_eq_true rfl) (L := [(0, _)]) rfl ?_
  refine s_iload_n dX4_isDigit_0 rfl ?_
  refine s_bipush dX4_isDigit_1 (by decide) ?_
  refine s_icmp_lt (tgt := 16) dX4_isDigit_3 (by decide) (by first | exact hG.2 _ _ | exact b01_in _ | assumption | exact ⟨by omega, by omega⟩) (by first | exact hG.2 _ _ | exact b01_in _ | assumption | exact ⟨by omega, by omega⟩) (fun c1 => ?_) (fun c1 => ?_)
  · refine s_iconst dX4_isDigit_16 ?_
    refine s_zreturn dX4_isDigit_17 rfl (by first | exact Or.inl rfl | exact Or.inr rfl) ?_
    first | (rw [b01_t (c := 48 ≤ x ∧ x ≤ 57) (by omega)] at k; exact k) | (rw [b01_f (c := 48 ≤ x ∧ x ≤ 57) (by omega)] at k; exact k)
  · refine s_iload_n dX4_isDigit_6 rfl ?_
    refine s_bipush dX4_isDigit_7 (by decide) ?_
    refine s_icmp_gt (tgt := 16) dX4_isDigit_9 (by decide) (by first | exact hG.2 _ _ | exact b01_in _ | assumption | exact ⟨by omega, by omega⟩) (by first | exact hG.2 _ _ | exact b01_in _ | assumption | exact ⟨by omega, by omega⟩) (fun c2 => ?_) (fun c2 => ?_)
    · refine s_iconst dX4_isDigit_16 ?_
      refine s_zreturn dX4_isDigit_17 rfl (by first | exact Or.inl rfl | exact Or.inr rfl) ?_
      first | (rw [b01_t (c := 48 ≤ x ∧ x ≤ 57) (by omega)] at k; exact k) | (rw [b01_f (c := 48 ≤ x ∧ x ≤ 57) (by omega)] at k; exact k)
    · refine s_iconst dX4_isDigit_12 ?_
      refine s_goto (tgt := 17) dX4_isDigit_13 (by decide) ?_
      refine s_zreturn dX4_isDigit_17 rfl (by first | exact Or.inl rfl | exact Or.inr rfl) ?_
      first | (rw [b01_t (c := 48 ≤ x ∧ x ≤ 57) (by omega)] at k; exact k) | (rw [b01_f (c := 48 ≤ x ∧ x ≤ 57) (by omega)] at k; exact k)
set_option maxRecDepth 100000 in
set_option maxHeartbeats 4000000 in
theorem lp_X4_skipBlanks {e MM : Int} (E : EV_ h0 v n T) (k : ∀ h' : PH, RS_ h0 v n MM e s y h' → Q.1 none nN h') : ∀ (m : Nat) (a : Int) (h : PH), (0 ≤ a) → (a + m = n) → (nb_ T n a = e) → (RS_ h0 v n MM a s y h) → S_ MX4_skipBlanks d bc bs Q 0 [(2, 2)] [] nN h := by
  intro m
  induction m with
  | zero =>
    intro a h a0 am he RhG
    have hG := RhG.1.1
    have dhG := RhG.2.1
    have hn := E.2.1
    have tx := rs_tx E RhG a0
    refine s_aload_n dX4_skipBlanks_0 rfl ?_
    refine s_geti dX4_skipBlanks_1 fl_X4_36 kl_3 (by decide) rfl io_2 (z := 5) rfl ?_
    refine s_aload_n dX4_skipBlanks_4 rfl ?_
    refine s_geti dX4_skipBlanks_5 fl_X4_33 kl_3 (by decide) rfl io_2 (z := 4) rfl ?_
    refine s_icmp_ge (tgt := 66) dX4_skipBlanks_8 (by decide) (by first | exact hG.2 _ _ | exact b01_in _ | assumption | exact ⟨by omega, by omega⟩) (by first | exact hG.2 _ _ | exact b01_in _ | assumption | exact ⟨by omega, by omega⟩) (fun c1 => ?_) (fun c1 => ?_)
    · exact s_return dX4_skipBlanks_66 rfl (k _ (by rw [← he, nb_st (by omega)]; exact RhG))
    · exact absurd c1 (by omega)
  | succ m ih =>
    intro a h a0 am he RhG
    have hG := RhG.1.1
    have dhG := RhG.2.1
    have hn := E.2.1
    have tx := rs_tx E RhG a0
    refine s_aload_n dX4_skipBlanks_0 rfl ?_
    refine s_geti dX4_skipBlanks_1 fl_X4_36 kl_3 (by decide) rfl io_2 (z := 5) rfl ?_
    refine s_aload_n dX4_skipBlanks_4 rfl ?_
    refine s_geti dX4_skipBlanks_5 fl_X4_33 kl_3 (by decide) rfl io_2 (z := 4) rfl ?_
    refine s_icmp_ge (tgt := 66) dX4_skipBlanks_8 (by decide) (by first | exact hG.2 _ _ | exact b01_in _ | assumption | exact ⟨by omega, by omega⟩) (by first | exact hG.2 _ _ | exact b01_in _ | assumption | exact ⟨by omega, by omega⟩) (fun c1 => ?_) (fun c1 => ?_)
    · exact absurd c1 (by omega)
    · refine s_aload_n dX4_skipBlanks_11 rfl ?_
      refine s_getr dX4_skipBlanks_12 fl_X4_29 kl_3 (by decide) rfl io_2 (z := 3) rfl (rf_3_3 hG.1 io_2) (rk_3_3 io_2).1 ?_
      refine s_aload_n dX4_skipBlanks_15 rfl ?_
      refine s_geti dX4_skipBlanks_16 fl_X4_36 kl_3 (by decide) rfl io_2 (z := 5) rfl ?_
      refine s_baload1 dX4_skipBlanks_19 (rk_3_3 io_2) (by omega) (by omega) ?_
      refine s_bipush dX4_skipBlanks_20 (by decide) ?_
      refine s_icmp_eq (tgt := 53) dX4_skipBlanks_22 (by decide) (by first | exact hG.2 _ _ | exact b01_in _ | assumption | exact ⟨by omega, by omega⟩) (by first | exact hG.2 _ _ | exact b01_in _ | assumption | exact ⟨by omega, by omega⟩) (fun c2 => ?_) (fun c2 => ?_)
      · refine s_aload_n dX4_skipBlanks_53 rfl ?_
        refine s_dup dX4_skipBlanks_54 rfl ?_
        refine s_geti dX4_skipBlanks_55 fl_X4_36 kl_3 (by decide) rfl io_2 (z := 5) rfl ?_
        refine s_iconst dX4_skipBlanks_58 ?_
        refine s_iadd dX4_skipBlanks_59 ?_
        refine s_putiG 5 dX4_skipBlanks_60 fl_X4_36 kl_3 (by decide) rfl rfl io_2 (z := 5) rfl (by decide +kernel) hG (by first | exact hG.2 _ _ | exact b01_in _ | assumption | exact ⟨by omega, by omega⟩) (fun hG1 => ?_)
        refine s_goto (tgt := 0) dX4_skipBlanks_63 (by decide) ?_
        exact ih (a + 1) _ (by omega) (by omega) (by rw [← he]; exact (nb_up (by omega) (by omega)).symm) (rs_at E RhG hG1 (by omega))
      · refine s_aload_n dX4_skipBlanks_25 rfl ?_
        refine s_getr dX4_skipBlanks_26 fl_X4_29 kl_3 (by decide) rfl io_2 (z := 3) rfl (rf_3_3 hG.1 io_2) (rk_3_3 io_2).1 ?_
        refine s_aload_n dX4_skipBlanks_29 rfl ?_
        refine s_geti dX4_skipBlanks_30 fl_X4_36 kl_3 (by decide) rfl io_2 (z := 5) rfl ?_
        refine s_baload1 dX4_skipBlanks_33 (rk_3_3 io_2) (by omega) (by omega) ?_
        refine s_bipush dX4_skipBlanks_34 (by decide) ?_
        refine s_icmp_eq (tgt := 53) dX4_skipBlanks_36 (by decide) (by first | exact hG.2 _ _ | exact b01_in _ | assumption | exact ⟨by omega, by omega⟩) (by first | exact hG.2 _ _ | exact b01_in _ | assumption | exact ⟨by omega, by omega⟩) (fun c3 => ?_) (fun c3 => ?_)
        · refine s_aload_n dX4_skipBlanks_53 rfl ?_
          refine s_dup dX4_skipBlanks_54 rfl ?_
          refine s_geti dX4_skipBlanks_55 fl_X4_36 kl_3 (by decide) rfl io_2 (z := 5) rfl ?_
          refine s_iconst dX4_skipBlanks_58 ?_
          refine s_iadd dX4_skipBlanks_59 ?_
          refine s_putiG 5 dX4_skipBlanks_60 fl_X4_36 kl_3 (by decide) rfl rfl io_2 (z := 5) rfl (by decide +kernel) hG (by first | exact hG.2 _ _ | exact b01_in _ | assumption | exact ⟨by omega, by omega⟩) (fun hG2 => ?_)
          refine s_goto (tgt := 0) dX4_skipBlanks_63 (by decide) ?_
          exact ih (a + 1) _ (by omega) (by omega) (by rw [← he]; exact (nb_up (by omega) (by omega)).symm) (rs_at E RhG hG2 (by omega))
        · refine s_aload_n dX4_skipBlanks_39 rfl ?_
          refine s_getr dX4_skipBlanks_40 fl_X4_29 kl_3 (by decide) rfl io_2 (z := 3) rfl (rf_3_3 hG.1 io_2) (rk_3_3 io_2).1 ?_
          refine s_aload_n dX4_skipBlanks_43 rfl ?_
          refine s_geti dX4_skipBlanks_44 fl_X4_36 kl_3 (by decide) rfl io_2 (z := 5) rfl ?_
          refine s_baload1 dX4_skipBlanks_47 (rk_3_3 io_2) (by omega) (by omega) ?_
          refine s_bipush dX4_skipBlanks_48 (by decide) ?_
          refine s_icmp_ne (tgt := 66) dX4_skipBlanks_50 (by decide) (by first | exact hG.2 _ _ | exact b01_in _ | assumption | exact ⟨by omega, by omega⟩) (by first | exact hG.2 _ _ | exact b01_in _ | assumption | exact ⟨by omega, by omega⟩) (fun c4 => ?_) (fun c4 => ?_)
          · exact s_return dX4_skipBlanks_66 rfl (k _ (by rw [← he, nb_st (by omega)]; exact RhG))
          · refine s_aload_n dX4_skipBlanks_53 rfl ?_
            refine s_dup dX4_skipBlanks_54 rfl ?_
            refine s_geti dX4_skipBlanks_55 fl_X4_36 kl_3 (by decide) rfl io_2 (z := 5) rfl ?_
            refine s_iconst dX4_skipBlanks_58 ?_
            refine s_iadd dX4_skipBlanks_59 ?_
            refine s_putiG 5 dX4_skipBlanks_60 fl_X4_36 kl_3 (by decide) rfl rfl io_2 (z := 5) rfl (by decide +kernel) hG (by first | exact hG.2 _ _ | exact b01_in _ | assumption | exact ⟨by omega, by omega⟩) (fun hG3 => ?_)
            refine s_goto (tgt := 0) dX4_skipBlanks_63 (by decide) ?_
            exact ih (a + 1) _ (by omega) (by omega) (by rw [← he]; exact (nb_up (by omega) (by omega)).symm) (rs_at E RhG hG3 (by omega))
set_option maxRecDepth 100000 in
set_option maxHeartbeats 4000000 in
theorem c_X4_skipBlanks (E : EV_ h0 v n T) (RhG : RS_ h0 v n m a s y h) (a0 : 0 ≤ a) (a1 : a ≤ n) (k : ∀ h' : PH, RS_ h0 v n m (nb_ T n a) s y h' → Q.1 none nN h') : Cl_ yX4_skipBlanks MX4_skipBlanks d bc bs [(2, 2)] nN h Q := by
  refine s_enter pn_X4 rfl (Nat.le_of_ble_eq_true rfl) (L := [(2, _)]) rfl ?_
  exact lp_X4_skipBlanks E k (n - a).toNat a h a0 (by omega) rfl RhG
set_option maxRecDepth 100000 in
set_option maxHeartbeats 4000000 in
theorem c_X4_demand {q p f : Int} (hd : 6 ≤ d) (hb : q = 0 → 1 ≤ bc ∧ 6 ≤ bs) (RhG : RS_ h0 v n m a s y h) (hp : inI p) (hq : q = 0 ∨ q = 1) (hf : p = f) (f0 : 0 ≤ f ∧ f ≤ 400) (k : ¬ q = 0 → Q.1 none nN h) (kx : q = 0 → ∀ h' : PH, RX_ h0 v f h' → Q.2 IAE nN h') : Cl_ yX4_demand MX4_demand d bc bs [(2, 2), (0, q), (0, p)] nN h Q := by
  refine s_enter pn_X4 rfl (Nat.le_of_ble_eq_true rfl) (L := [(2, _), (0, _), (0, _)]) rfl ?_
  have hG := RhG.1.1
  refine s_iload_n dX4_demand_0 rfl ?_
  refine s_if_ne (tgt := 19) dX4_demand_1 (by decide) (by first | exact hG.2 _ _ | exact b01_in _ | assumption | exact ⟨by omega, by omega⟩) (fun c1 => ?_) (fun c1 => ?_)
  · exact s_return dX4_demand_19 rfl (k (by omega))
  · have hb2 := hb (by omega)--go
    refine s_aload_n dX4_demand_4 rfl ?_
    refine s_iload_n dX4_demand_5 rfl ?_
    refine s_putiG 2 dX4_demand_6 fl_X4_25 kl_3 (by decide) rfl rfl io_2 (z := 2) rfl (by decide +kernel) hG (by first | exact hG.2 _ _ | exact b01_in _ | assumption | exact ⟨by omega, by omega⟩) (fun hG1 => ?_)
    refine s_throw nh_0 dX4_demand_9 dX4_demand_12 dX4_demand_13 dX4_demand_15 dX4_demand_18 ts_X4_240_242_244 bf_IAE (by omega) (by omega) (by omega) (Nat.le_of_ble_eq_true rfl) ?_
    exact kx (by omega) _ (rs_fx RhG hG1 hf f0)
set_option maxRecDepth 100000 in
set_option maxHeartbeats 4000000 in
theorem lp_X4_takeWord {e MM : Int} (hd : 8 ≤ d) (E : EV_ h0 v n T) (s0 : 0 ≤ s) (hb : ¬ s < e → 1 ≤ bc ∧ 6 ≤ bs) (k : s < e → ∀ h' : PH, RS_ h0 v n MM e s y h' → Q.1 none nN h') (kx : ¬ s < e → ∀ h' : PH, RX_ h0 v s h' → Q.2 IAE nN h') : ∀ (m : Nat) (a : Int) (h : PH), (s ≤ a) → (a + m = n) → (we_ T n a = e) → (RS_ h0 v n MM a s y h) → S_ MX4_takeWord d bc bs Q 12 [(2, 2)] [] nN h := by
  intro m
  induction m with
  | zero =>
    intro a h sa am he RhG
    have hG := RhG.1.1
    have dhG := RhG.2.1
    have hn := E.2.1
    have tx := rs_tx E RhG (by omega)
    have we := we_st (T := T) (n := n) (a := a)
    refine s_aload_n dX4_takeWord_12 rfl ?_
    refine s_geti dX4_takeWord_13 fl_X4_36 kl_3 (by decide) rfl io_2 (z := 5) rfl ?_
    refine s_aload_n dX4_takeWord_16 rfl ?_
    refine s_geti dX4_takeWord_17 fl_X4_33 kl_3 (by decide) rfl io_2 (z := 4) rfl ?_
    refine s_icmp_ge (tgt := 51) dX4_takeWord_20 (by decide) (by first | exact hG.2 _ _ | exact b01_in _ | assumption | exact ⟨by omega, by omega⟩) (by first | exact hG.2 _ _ | exact b01_in _ | assumption | exact ⟨by omega, by omega⟩) (fun c1 => ?_) (fun c1 => ?_)
    · refine s_aload_n dX4_takeWord_51 rfl ?_
      refine s_aload_n dX4_takeWord_52 rfl ?_
      refine s_geti dX4_takeWord_53 fl_X4_36 kl_3 (by decide) rfl io_2 (z := 5) rfl ?_
      refine s_aload_n dX4_takeWord_56 rfl ?_
      refine s_geti dX4_takeWord_57 fl_X4_105 kl_3 (by decide) rfl io_2 (z := 6) rfl ?_
      refine s_icmp_le (tgt := 67) dX4_takeWord_60 (by decide) (by first | exact hG.2 _ _ | exact b01_in _ | assumption | exact ⟨by omega, by omega⟩) (by first | exact hG.2 _ _ | exact b01_in _ | assumption | exact ⟨by omega, by omega⟩) (fun c2 => ?_) (fun c2 => ?_)
      · refine s_iconst dX4_takeWord_67 ?_
        refine s_aload_n dX4_takeWord_68 rfl ?_
        refine s_geti dX4_takeWord_69 fl_X4_105 kl_3 (by decide) rfl io_2 (z := 6) rfl ?_
        
        refine s_callP (as := [_, _]) (s < e) (fun q => hb q) dX4_takeWord_72 vf_X4_108 (dd_ (by omega) (by decide)) rfl rfl (Nat.le_of_ble_eq_true rfl) kl_3 rfl io_2 (fun b1 b2 Q1 hb1 k1 kx1 => ?_)
        exact c_X4_demand (by omega) (fun q => hb1 (by omega)) RhG (hG.2 _ _) (Or.inl rfl) (f := s) (by omega) (by omega) (fun q => absurd rfl q) (fun q h' X => kx1 _ _ _ (by omega) (kx (by omega) h' X))
      · refine s_iconst dX4_takeWord_63 ?_
        refine s_goto (tgt := 68) dX4_takeWord_64 (by decide) ?_
        refine s_aload_n dX4_takeWord_68 rfl ?_
        refine s_geti dX4_takeWord_69 fl_X4_105 kl_3 (by decide) rfl io_2 (z := 6) rfl ?_
        
        refine s_callP (as := [_, _]) (s < e) (fun q => hb q) dX4_takeWord_72 vf_X4_108 (dd_ (by omega) (by decide)) rfl rfl (Nat.le_of_ble_eq_true rfl) kl_3 rfl io_2 (fun b1 b2 Q1 hb1 k1 kx1 => ?_)
        refine c_X4_demand (by omega) (fun q => absurd q (by decide)) RhG (hG.2 _ _) (Or.inr rfl) (f := s) (by omega) (by omega) (fun q => k1 _ _ _ (by omega) ?_) (fun q => absurd q (by decide))
        exact s_return dX4_takeWord_75 rfl (k (by omega) _ (by rw [← he, we (by omega)]; exact RhG))
    · exact absurd c1 (by omega)
  | succ m ih =>
    intro a h sa am he RhG
    have hG := RhG.1.1
    have dhG := RhG.2.1
    have hn := E.2.1
    have tx := rs_tx E RhG (by omega)
    have we := we_st (T := T) (n := n) (a := a)
    refine s_aload_n dX4_takeWord_12 rfl ?_
    refine s_geti dX4_takeWord_13 fl_X4_36 kl_3 (by decide) rfl io_2 (z := 5) rfl ?_
    refine s_aload_n dX4_takeWord_16 rfl ?_
    refine s_geti dX4_takeWord_17 fl_X4_33 kl_3 (by decide) rfl io_2 (z := 4) rfl ?_
    refine s_icmp_ge (tgt := 51) dX4_takeWord_20 (by decide) (by first | exact hG.2 _ _ | exact b01_in _ | assumption | exact ⟨by omega, by omega⟩) (by first | exact hG.2 _ _ | exact b01_in _ | assumption | exact ⟨by omega, by omega⟩) (fun c1 => ?_) (fun c1 => ?_)
    · exact absurd c1 (by omega)
    · refine s_aload_n dX4_takeWord_23 rfl ?_
      refine s_getr dX4_takeWord_24 fl_X4_29 kl_3 (by decide) rfl io_2 (z := 3) rfl (rf_3_3 hG.1 io_2) (rk_3_3 io_2).1 ?_
      refine s_aload_n dX4_takeWord_27 rfl ?_
      refine s_geti dX4_takeWord_28 fl_X4_36 kl_3 (by decide) rfl io_2 (z := 5) rfl ?_
      refine s_baload1 dX4_takeWord_31 (rk_3_3 io_2) (by omega) (by omega) ?_
      refine s_callS (d' := d - 1) (bc' := 0) (bs' := 0) (as := [_]) dX4_takeWord_32 sf_X4_200 (dd_ (by omega) (by decide)) ⟨Nat.zero_le _, Nat.zero_le _⟩ rfl rfl (Nat.le_of_ble_eq_true rfl) ?_
      refine c_X4_isLetter (hG.2 _ _) ?_
      refine s_if_eq (tgt := 51) dX4_takeWord_35 (by decide) (by first | exact hG.2 _ _ | exact b01_in _ | assumption | exact ⟨by omega, by omega⟩) (fun c2 => ?_) (fun c2 => ?_)
      · have c2 := b01_0.mp c2
        refine s_aload_n dX4_takeWord_51 rfl ?_
        refine s_aload_n dX4_takeWord_52 rfl ?_
        refine s_geti dX4_takeWord_53 fl_X4_36 kl_3 (by decide) rfl io_2 (z := 5) rfl ?_
        refine s_aload_n dX4_takeWord_56 rfl ?_
        refine s_geti dX4_takeWord_57 fl_X4_105 kl_3 (by decide) rfl io_2 (z := 6) rfl ?_
        refine s_icmp_le (tgt := 67) dX4_takeWord_60 (by decide) (by first | exact hG.2 _ _ | exact b01_in _ | assumption | exact ⟨by omega, by omega⟩) (by first | exact hG.2 _ _ | exact b01_in _ | assumption | exact ⟨by omega, by omega⟩) (fun c3 => ?_) (fun c3 => ?_)
        · refine s_iconst dX4_takeWord_67 ?_
          refine s_aload_n dX4_takeWord_68 rfl ?_
          refine s_geti dX4_takeWord_69 fl_X4_105 kl_3 (by decide) rfl io_2 (z := 6) rfl ?_
          
          refine s_callP (as := [_, _]) (s < e) (fun q => hb q) dX4_takeWord_72 vf_X4_108 (dd_ (by omega) (by decide)) rfl rfl (Nat.le_of_ble_eq_true rfl) kl_3 rfl io_2 (fun b1 b2 Q1 hb1 k1 kx1 => ?_)
          exact c_X4_demand (by omega) (fun q => hb1 (by omega)) RhG (hG.2 _ _) (Or.inl rfl) (f := s) (by omega) (by omega) (fun q => absurd rfl q) (fun q h' X => kx1 _ _ _ (by omega) (kx (by omega) h' X))
        · refine s_iconst dX4_takeWord_63 ?_
          refine s_goto (tgt := 68) dX4_takeWord_64 (by decide) ?_
          refine s_aload_n dX4_takeWord_68 rfl ?_
          refine s_geti dX4_takeWord_69 fl_X4_105 kl_3 (by decide) rfl io_2 (z := 6) rfl ?_
          
          refine s_callP (as := [_, _]) (s < e) (fun q => hb q) dX4_takeWord_72 vf_X4_108 (dd_ (by omega) (by decide)) rfl rfl (Nat.le_of_ble_eq_true rfl) kl_3 rfl io_2 (fun b1 b2 Q1 hb1 k1 kx1 => ?_)
          refine c_X4_demand (by omega) (fun q => absurd q (by decide)) RhG (hG.2 _ _) (Or.inr rfl) (f := s) (by omega) (by omega) (fun q => k1 _ _ _ (by omega) ?_) (fun q => absurd q (by decide))
          exact s_return dX4_takeWord_75 rfl (k (by omega) _ (by rw [← he, we (by omega)]; exact RhG))
      · have c2 := b01_n.mp c2
        refine s_aload_n dX4_takeWord_38 rfl ?_
        refine s_dup dX4_takeWord_39 rfl ?_
        refine s_geti dX4_takeWord_40 fl_X4_36 kl_3 (by decide) rfl io_2 (z := 5) rfl ?_
        refine s_iconst dX4_takeWord_43 ?_
        refine s_iadd dX4_takeWord_44 ?_
        refine s_putiG 5 dX4_takeWord_45 fl_X4_36 kl_3 (by decide) rfl rfl io_2 (z := 5) rfl (by decide +kernel) hG (by first | exact hG.2 _ _ | exact b01_in _ | assumption | exact ⟨by omega, by omega⟩) (fun hG1 => ?_)
        refine s_goto (tgt := 12) dX4_takeWord_48 (by decide) ?_
        exact ih (a + 1) _ (by omega) (by omega) (by rw [← he]; exact (we_up (by omega) (by omega)).symm) (rs_at E RhG hG1 (by omega))
set_option maxRecDepth 100000 in
set_option maxHeartbeats 4000000 in
theorem c_X4_takeWord  (hd : 8 ≤ d) (hb : ¬ nb_ T n a < wn_ T n a → 1 ≤ bc ∧ 6 ≤ bs) (E : EV_ h0 v n T) (RhG : RS_ h0 v n m a s y h) (a0 : 0 ≤ a) (a1 : a ≤ n) (k : nb_ T n a < wn_ T n a → ∀ h' : PH, RS_ h0 v n m (wn_ T n a) (nb_ T n a) y h' → Q.1 none nN h') (kx : ¬ nb_ T n a < wn_ T n a → ∀ h' : PH, RX_ h0 v (nb_ T n a) h' → Q.2 IAE nN h') : Cl_ yX4_takeWord MX4_takeWord d bc bs [(2, 2)] nN h Q := by
  refine s_enter pn_X4 rfl (Nat.le_of_ble_eq_true rfl) (L := [(2, _)]) rfl ?_
  have hG := RhG.1.1
  have dhG := RhG.2.1
  have hn := E.2.1
  have bd := wn_bd (T := T) a1
  refine s_aload_n dX4_takeWord_0 rfl ?_
  refine s_callV (d' := d - 1) (bc' := 0) (bs' := 0) (as := []) dX4_takeWord_1 vf_X4_43 (dd_ (by omega) (by decide)) ⟨Nat.zero_le _, Nat.zero_le _⟩ rfl rfl (Nat.le_of_ble_eq_true rfl) kl_3 rfl io_2 ?_
  refine c_X4_skipBlanks E RhG a0 a1 (fun hhG1 RhG1 => ?_)
  have hG1 := RhG1.1.1
  have dhG1 := RhG1.2.1
  have phG1 := RhG1.2.2.1.1
  refine s_aload_n dX4_takeWord_4 rfl ?_
  refine s_aload_n dX4_takeWord_5 rfl ?_
  refine s_geti dX4_takeWord_6 fl_X4_36 kl_3 (by decide) rfl io_2 (z := 5) rfl ?_
  refine s_putiG 6 dX4_takeWord_9 fl_X4_105 kl_3 (by decide) rfl rfl io_2 (z := 6) rfl (by decide +kernel) hG1 (by first | exact hG1.2 _ _ | exact hG.2 _ _ | exact b01_in _ | assumption | exact ⟨by omega, by omega⟩) (fun hG2 => ?_)
  exact lp_X4_takeWord hd E (by omega) hb k kx (n - nb_ T n a).toNat (nb_ T n a) _ (Int.le_refl _) (by omega) rfl (rs_ss E RhG1 hG2 (by omega))
set_option maxRecDepth 100000 in
set_option maxHeartbeats 4000000 in
theorem lp_X4_isTaken {j : Nat} {MM : Int} (hj : j < 44) (hd : 5 ≤ d) (E : EV_ h0 v n T) (RhG : RS_ h0 v n MM a s y h) (s0 : 0 ≤ s) (sa : s ≤ a) (a1 : a ≤ n) (hll : a - s = (txb_ j).length) (k : Q.1 (some (0, b01 (iw_ T s (a - s) j))) nN h) : ∀ (m : Nat) (i : Int), (0 ≤ i) → (i + m = a - s) → (∀ q : Int, 0 ≤ q → q < i → T (s + q) = (txb_ j).getD q.toNat 0) → S_ MX4_isTaken d bc bs Q 20 [(2, 2), (2, 1000 + j), (0, i)] [] nN h := by
  intro m
  induction m with
  | zero =>
    intro i i0 im he
    have hG := RhG.1.1
    have dhG := RhG.2.1
    have hn := E.2.1
    have hl := (txs_ok j hj).1
    have tb := fun i : Nat => txb_bd hj i
    have te : i < a - s → h (2 + -1) (h 2 6 + i) = T (s + i) := fun q => by rw [dhG.2.2.1]; exact (rs_T E RhG (by omega) (by omega)).1
    have ti := tb i.toNat
    refine s_iload_n dX4_isTaken_20 rfl ?_
    refine s_aload_n dX4_isTaken_21 rfl ?_
    refine e_callK (d' := d - 1) (bc' := 0) (bs' := 0) (as := []) nh_0 (kx_st hj) dX4_isTaken_22 vf_X4_232 (dd_ (by omega) (by decide)) ⟨Nat.zero_le _, Nat.zero_le _⟩ rfl rfl (Nat.le_of_ble_eq_true rfl) rfl ?_
    refine c_J0_length_8abf5 hj (by omega) ?_
    refine s_icmp_ge (tgt := 55) dX4_isTaken_25 (by decide) (by first | exact hG.2 _ _ | exact b01_in _ | assumption | exact ⟨by omega, by omega⟩) (by first | exact hG.2 _ _ | exact b01_in _ | assumption | exact ⟨by omega, by omega⟩) (fun c1 => ?_) (fun c1 => ?_)
    · refine s_iconst dX4_isTaken_55 ?_
      exact s_zreturn dX4_isTaken_56 rfl (Or.inr rfl) (by rw [b01_t (c := iw_ T s (a - s) j) ⟨hll, fun q q0 q1 => he q q0 (by omega)⟩] at k; exact k)
    · exact absurd c1 (by omega)
  | succ m ih =>
    intro i i0 im he
    have hG := RhG.1.1
    have dhG := RhG.2.1
    have hn := E.2.1
    have hl := (txs_ok j hj).1
    have tb := fun i : Nat => txb_bd hj i
    have te : i < a - s → h (2 + -1) (h 2 6 + i) = T (s + i) := fun q => by rw [dhG.2.2.1]; exact (rs_T E RhG (by omega) (by omega)).1
    have ti := tb i.toNat
    refine s_iload_n dX4_isTaken_20 rfl ?_
    refine s_aload_n dX4_isTaken_21 rfl ?_
    refine e_callK (d' := d - 1) (bc' := 0) (bs' := 0) (as := []) nh_0 (kx_st hj) dX4_isTaken_22 vf_X4_232 (dd_ (by omega) (by decide)) ⟨Nat.zero_le _, Nat.zero_le _⟩ rfl rfl (Nat.le_of_ble_eq_true rfl) rfl ?_
    refine c_J0_length_8abf5 hj (by omega) ?_
    refine s_icmp_ge (tgt := 55) dX4_isTaken_25 (by decide) (by first | exact hG.2 _ _ | exact b01_in _ | assumption | exact ⟨by omega, by omega⟩) (by first | exact hG.2 _ _ | exact b01_in _ | assumption | exact ⟨by omega, by omega⟩) (fun c1 => ?_) (fun c1 => ?_)
    · exact absurd c1 (by omega)
    · refine s_aload_n dX4_isTaken_28 rfl ?_
      refine s_getr dX4_isTaken_29 fl_X4_29 kl_3 (by decide) rfl io_2 (z := 3) rfl (rf_3_3 hG.1 io_2) (rk_3_3 io_2).1 ?_
      refine s_aload_n dX4_isTaken_32 rfl ?_
      refine s_geti dX4_isTaken_33 fl_X4_105 kl_3 (by decide) rfl io_2 (z := 6) rfl ?_
      refine s_iload_n dX4_isTaken_36 rfl ?_
      refine s_iadd dX4_isTaken_37 ?_
      refine s_baload1 dX4_isTaken_38 (rk_3_3 io_2) (by omega) (by omega) ?_
      refine s_aload_n dX4_isTaken_39 rfl ?_
      refine s_iload_n dX4_isTaken_40 rfl ?_
      refine e_callK (d' := d - 1) (bc' := 0) (bs' := 0) (as := [_]) nh_0 (kx_st hj) dX4_isTaken_41 vf_X4_236 (dd_ (by omega) (by decide)) ⟨Nat.zero_le _, Nat.zero_le _⟩ rfl rfl (Nat.le_of_ble_eq_true rfl) rfl ?_
      refine c_J0_charAt_5068e hj (by omega) (by omega) (by omega) ?_
      refine s_icmp_eq (tgt := 49) dX4_isTaken_44 (by decide) (by first | exact hG.2 _ _ | exact b01_in _ | assumption | exact ⟨by omega, by omega⟩) (by first | exact hG.2 _ _ | exact b01_in _ | assumption | exact ⟨by omega, by omega⟩) (fun c2 => ?_) (fun c2 => ?_)
      · refine s_iinc dX4_isTaken_49 rfl (by decide) rfl (L' := [_, _, _]) rfl ?_
        refine s_goto (tgt := 20) dX4_isTaken_52 (by decide) ?_
        exact ih (i + 1) (by omega) (by omega) (fun q q0 q1 => (by rcases (by omega : q < i ∨ q = i) with r | r; exact he q q0 r; rw [r]; omega))
      · refine s_iconst dX4_isTaken_47 ?_
        exact s_zreturn dX4_isTaken_48 rfl (Or.inl rfl) (by rw [b01_f (c := iw_ T s (a - s) j) (fun z => by have := z.2 i i0 (by omega); omega)] at k; exact k)
set_option maxRecDepth 100000 in
set_option maxHeartbeats 4000000 in
theorem c_X4_isTaken {j : Nat} (hj : j < 44) (hd : 5 ≤ d) (E : EV_ h0 v n T) (RhG : RS_ h0 v n m a s y h) (s0 : 0 ≤ s) (sa : s ≤ a) (a1 : a ≤ n) (k : Q.1 (some (0, b01 (iw_ T s (a - s) j))) nN h) : Cl_ yX4_isTaken MX4_isTaken d bc bs [(2, 2), (2, 1000 + j)] nN h Q := by
  refine s_enter pn_X4 rfl (Nat.le_of_ble_eq_true rfl) (L := [(2, _), (2, _), (9, 0)]) rfl ?_
  have hG := RhG.1.1
  have dhG := RhG.2.1
  have hn := E.2.1
  have hl := (txs_ok j hj).1
  have tb := fun i : Nat => txb_bd hj i
  refine s_aload_n dX4_isTaken_0 rfl ?_
  refine e_callK (d' := d - 1) (bc' := 0) (bs' := 0) (as := []) nh_0 (kx_st hj) dX4_isTaken_1 vf_X4_232 (dd_ (by omega) (by decide)) ⟨Nat.zero_le _, Nat.zero_le _⟩ rfl rfl (Nat.le_of_ble_eq_true rfl) rfl ?_
  refine c_J0_length_8abf5 hj (by omega) ?_
  refine s_aload_n dX4_isTaken_4 rfl ?_
  refine s_geti dX4_isTaken_5 fl_X4_36 kl_3 (by decide) rfl io_2 (z := 5) rfl ?_
  refine s_aload_n dX4_isTaken_8 rfl ?_
  refine s_geti dX4_isTaken_9 fl_X4_105 kl_3 (by decide) rfl io_2 (z := 6) rfl ?_
  refine s_isub dX4_isTaken_12 ?_
  refine s_icmp_eq (tgt := 18) dX4_isTaken_13 (by decide) (by first | exact hG.2 _ _ | exact b01_in _ | assumption | exact ⟨by omega, by omega⟩) (by first | exact hG.2 _ _ | exact b01_in _ | assumption | exact ⟨by omega, by omega⟩) (fun c1 => ?_) (fun c1 => ?_)
  · refine s_iconst dX4_isTaken_18 ?_
    refine s_istore_n dX4_isTaken_19 (by decide) rfl (L' := [_, _, _]) rfl ?_
    exact lp_X4_isTaken hj hd E RhG s0 sa a1 (by omega) k (a - s).toNat 0 (Int.le_refl _) (by omega) (fun q q0 q1 => by omega)
  · refine s_iconst dX4_isTaken_16 ?_
    exact s_zreturn dX4_isTaken_17 rfl (Or.inl rfl) (by rw [b01_f (c := iw_ T s (a - s) j) (fun z => by have := z.1; omega)] at k; exact k)
set_option maxRecDepth 100000 in
set_option maxHeartbeats 4000000 in
theorem lp_X4_takenWord {MM : Int} {r : Nat} (hd : 6 ≤ d) (E : EV_ h0 v n T) (RhG : RS_ h0 v n MM a s y h) (s0 : 0 ≤ s) (sa : s ≤ a) (a1 : a ≤ n) (k : Q.1 (some (2, 1200 + (r : Int))) nN h) : ∀ (m : Nat) (i : Nat), (i + m = 24) → (wx_ (iw_ T s (a - s)) m i = r) → S_ MX4_takenWord d bc bs Q 2 [(2, 2), (0, (i : Int))] [] nN h := by
  intro m
  induction m with
  | zero =>
    intro i im he
    have hG := RhG.1.1
    have dhG := RhG.2.1
    have hn := E.2.1
    refine s_iload_n dX4_takenWord_2 rfl ?_
    refine s_getsrN dX4_takenWord_3 (C := "WillHouse") (nm := "WORDS") (ds := "[LWillHouse$Word;") (z := 1300) (by decide +kernel) fn_X4_228 ?_
    refine s_klen dX4_takenWord_6 (fun _ _ _ ad K => K.2.2.2.2.1) (v := 24) rfl ?_
    refine s_icmp_ge (tgt := 37) dX4_takenWord_7 (by decide) (by first | exact hG.2 _ _ | exact b01_in _ | assumption | exact ⟨by omega, by omega⟩) (by first | exact hG.2 _ _ | exact b01_in _ | assumption | exact ⟨by omega, by omega⟩) (fun c1 => ?_) (fun c1 => ?_)
    · refine s_getsr dX4_takenWord_37 (C := "WillHouse$Word") (nm := "OTHER") (ds := "LWillHouse$Word;") (ref := "") (z := 1223) (by decide +kernel) fl_X4_207 ?_
      rw [wx_] at he
      subst he
      exact s_areturn dX4_takenWord_40 rfl (Or.inl ⟨_, rfl⟩) k
    · exact absurd c1 (by omega)
  | succ m ih =>
    intro i im he
    have hG := RhG.1.1
    have dhG := RhG.2.1
    have hn := E.2.1
    refine s_iload_n dX4_takenWord_2 rfl ?_
    refine s_getsrN dX4_takenWord_3 (C := "WillHouse") (nm := "WORDS") (ds := "[LWillHouse$Word;") (z := 1300) (by decide +kernel) fn_X4_228 ?_
    refine s_klen dX4_takenWord_6 (fun _ _ _ ad K => K.2.2.2.2.1) (v := 24) rfl ?_
    refine s_icmp_ge (tgt := 37) dX4_takenWord_7 (by decide) (by first | exact hG.2 _ _ | exact b01_in _ | assumption | exact ⟨by omega, by omega⟩) (by first | exact hG.2 _ _ | exact b01_in _ | assumption | exact ⟨by omega, by omega⟩) (fun c1 => ?_) (fun c1 => ?_)
    · exact absurd c1 (by omega)
    · refine s_aload_n dX4_takenWord_10 rfl ?_
      refine s_getsrN dX4_takenWord_11 (C := "WillHouse") (nm := "WORDS") (ds := "[LWillHouse$Word;") (z := 1300) (by decide +kernel) fn_X4_228 ?_
      refine s_iload_n dX4_takenWord_14 rfl ?_
      refine s_kwords dX4_takenWord_15 (by omega) (by omega) rfl ?_
      refine s_kfld (v := (2, 1000 + i)) (z := 1200 + (i : Int)) (ref := "") dX4_takenWord_16 (kx_le (by omega)) fl_X4_217 ?_
      refine s_callV (d' := d - 1) (bc' := 0) (bs' := 0) (as := [_]) dX4_takenWord_19 vf_X4_221 (dd_ (by omega) (by decide)) ⟨Nat.zero_le _, Nat.zero_le _⟩ rfl rfl (Nat.le_of_ble_eq_true rfl) kl_3 rfl io_2 ?_
      refine c_X4_isTaken (by omega) (by omega) E RhG s0 sa a1 ?_
      refine s_if_eq (tgt := 31) dX4_takenWord_22 (by decide) (by first | exact hG.2 _ _ | exact b01_in _ | assumption | exact ⟨by omega, by omega⟩) (fun c2 => ?_) (fun c2 => ?_)
      · have c2 := b01_0.mp c2
        refine s_iinc dX4_takenWord_31 rfl (by decide) rfl (L' := [_, _]) rfl ?_
        refine s_goto (tgt := 2) dX4_takenWord_34 (by decide) ?_
        rw [show ((i : Int) + 1) = ((i + 1 : Nat) : Int) by omega]
        exact ih (i + 1) (by omega) (by rw [← he, wx_, if_neg c2])
      · have c2 := b01_n.mp c2
        refine s_getsrN dX4_takenWord_25 (C := "WillHouse") (nm := "WORDS") (ds := "[LWillHouse$Word;") (z := 1300) (by decide +kernel) fn_X4_228 ?_
        refine s_iload_n dX4_takenWord_28 rfl ?_
        refine s_kwords dX4_takenWord_29 (by omega) (by omega) rfl ?_
        rw [wx_, if_pos c2] at he
        subst he
        exact s_areturn dX4_takenWord_30 rfl (Or.inl ⟨_, rfl⟩) k
set_option maxRecDepth 100000 in
set_option maxHeartbeats 4000000 in
theorem c_X4_takenWord  (hd : 6 ≤ d) (E : EV_ h0 v n T) (RhG : RS_ h0 v n m a s y h) (s0 : 0 ≤ s) (sa : s ≤ a) (a1 : a ≤ n) (k : Q.1 (some (2, 1200 + ((wi_ T s (a - s) : Nat) : Int))) nN h) : Cl_ yX4_takenWord MX4_takenWord d bc bs [(2, 2)] nN h Q := by
  refine s_enter pn_X4 rfl (Nat.le_of_ble_eq_true rfl) (L := [(2, _), (9, 0)]) rfl ?_
  refine s_iconst dX4_takenWord_0 ?_
  refine s_istore_n dX4_takenWord_1 (by decide) rfl (L' := [_, _]) rfl ?_
  exact lp_X4_takenWord hd E RhG s0 sa a1 k 24 0 (by omega) rfl
set_option maxRecDepth 100000 in
set_option maxHeartbeats 4000000 in
theorem lp_X4_takeNumber {e r lo hi MM : Int} (hd : 8 ≤ d) (hlo : inI lo) (hhi : inI hi) (E : EV_ h0 v n T) (s0 : 0 ≤ s) (hr : 0 ≤ r ∧ r ≤ 99999) (hb : ¬ ((1 ≤ e - s ∧ e - s ≤ 5) ∧ lo ≤ r ∧ r ≤ hi) → 1 ≤ bc ∧ 6 ≤ bs) (k : ((1 ≤ e - s ∧ e - s ≤ 5) ∧ lo ≤ r ∧ r ≤ hi) → ∀ h' : PH, RS_ h0 v n MM e s y h' → Q.1 (some (0, r)) nN h') (kx : ¬ ((1 ≤ e - s ∧ e - s ≤ 5) ∧ lo ≤ r ∧ r ≤ hi) → ∀ h' : PH, RX_ h0 v s h' → Q.2 IAE nN h') : ∀ (m : Nat) (a w : Int) (h : PH), (s ≤ a) → (a + m = n) → (de_ T n a = e) → (vl_ T s (e - a).toNat a w = r) → (RS_ h0 v n MM a s y h) → S_ MX4_takeNumber d bc bs Q 14 [(2, 2), (0, lo), (0, hi), (0, w), (9, 0)] [] nN h := by
  intro m
  induction m with
  | zero =>
    intro a w h sa am he hv RhG
    have hG := RhG.1.1
    have dhG := RhG.2.1
    have hn := E.2.1
    have tx := rs_tx E RhG (by omega)
    have ds := de_st (T := T) (n := n) (a := a)
    refine s_aload_n dX4_takeNumber_14 rfl ?_
    refine s_geti dX4_takeNumber_15 fl_X4_36 kl_3 (by decide) rfl io_2 (z := 5) rfl ?_
    refine s_aload_n dX4_takeNumber_18 rfl ?_
    refine s_geti dX4_takeNumber_19 fl_X4_33 kl_3 (by decide) rfl io_2 (z := 4) rfl ?_
    refine s_icmp_ge (tgt := 84) dX4_takeNumber_22 (by decide) (by first | exact hG.2 _ _ | exact b01_in _ | assumption | exact ⟨by omega, by omega⟩) (by first | exact hG.2 _ _ | exact b01_in _ | assumption | exact ⟨by omega, by omega⟩) (fun c1 => ?_) (fun c1 => ?_)
    · have ee : a = e := by rw [← he]; exact (ds (by omega)).symm
      have er : w = r := by rw [← hv, show (e - a).toNat = 0 by omega, vl_]
      refine s_aload_n dX4_takeNumber_84 rfl ?_
      refine s_geti dX4_takeNumber_85 fl_X4_36 kl_3 (by decide) rfl io_2 (z := 5) rfl ?_
      refine s_aload_n dX4_takeNumber_88 rfl ?_
      refine s_geti dX4_takeNumber_89 fl_X4_105 kl_3 (by decide) rfl io_2 (z := 6) rfl ?_
      refine s_isub dX4_takeNumber_92 ?_
      refine s_istore dX4_takeNumber_93 (by decide) rfl (L' := [_, _, _, _, _]) rfl ?_
      refine s_aload_n dX4_takeNumber_95 rfl ?_
      refine s_iload dX4_takeNumber_96 rfl ?_
      refine s_if_le (tgt := 121) dX4_takeNumber_98 (by decide) (by first | exact hG.2 _ _ | exact b01_in _ | assumption | exact ⟨by omega, by omega⟩) (fun c2 => ?_) (fun c2 => ?_)
      · refine s_iconst dX4_takeNumber_121 ?_
        refine s_aload_n dX4_takeNumber_122 rfl ?_
        refine s_geti dX4_takeNumber_123 fl_X4_105 kl_3 (by decide) rfl io_2 (z := 6) rfl ?_
        
        refine s_callP (as := [_, _]) ((1 ≤ e - s ∧ e - s ≤ 5) ∧ lo ≤ r ∧ r ≤ hi) (fun q => hb q) dX4_takeNumber_126 vf_X4_108 (dd_ (by omega) (by decide)) rfl rfl (Nat.le_of_ble_eq_true rfl) kl_3 rfl io_2 (fun b1 b2 Q1 hb1 k1 kx1 => ?_)
        exact c_X4_demand (by omega) (fun q => hb1 (by omega)) RhG (hG.2 _ _) (Or.inl rfl) (f := s) (by omega) (by omega) (fun q => absurd rfl q) (fun q h' X => kx1 _ _ _ (by omega) (kx (by omega) h' X))
      · refine s_iload dX4_takeNumber_101 rfl ?_
        refine s_iconst dX4_takeNumber_103 ?_
        refine s_icmp_gt (tgt := 121) dX4_takeNumber_104 (by decide) (by first | exact hG.2 _ _ | exact b01_in _ | assumption | exact ⟨by omega, by omega⟩) (by first | exact hG.2 _ _ | exact b01_in _ | assumption | exact ⟨by omega, by omega⟩) (fun c3 => ?_) (fun c3 => ?_)
        · refine s_iconst dX4_takeNumber_121 ?_
          refine s_aload_n dX4_takeNumber_122 rfl ?_
          refine s_geti dX4_takeNumber_123 fl_X4_105 kl_3 (by decide) rfl io_2 (z := 6) rfl ?_
          
          refine s_callP (as := [_, _]) ((1 ≤ e - s ∧ e - s ≤ 5) ∧ lo ≤ r ∧ r ≤ hi) (fun q => hb q) dX4_takeNumber_126 vf_X4_108 (dd_ (by omega) (by decide)) rfl rfl (Nat.le_of_ble_eq_true rfl) kl_3 rfl io_2 (fun b1 b2 Q1 hb1 k1 kx1 => ?_)
          exact c_X4_demand (by omega) (fun q => hb1 (by omega)) RhG (hG.2 _ _) (Or.inl rfl) (f := s) (by omega) (by omega) (fun q => absurd rfl q) (fun q h' X => kx1 _ _ _ (by omega) (kx (by omega) h' X))
        · refine s_iload_n dX4_takeNumber_107 rfl ?_
          refine s_iload_n dX4_takeNumber_108 rfl ?_
          refine s_icmp_lt (tgt := 121) dX4_takeNumber_109 (by decide) (by first | exact hG.2 _ _ | exact b01_in _ | assumption | exact ⟨by omega, by omega⟩) (by first | exact hG.2 _ _ | exact b01_in _ | assumption | exact ⟨by omega, by omega⟩) (fun c4 => ?_) (fun c4 => ?_)
          · refine s_iconst dX4_takeNumber_121 ?_
            refine s_aload_n dX4_takeNumber_122 rfl ?_
            refine s_geti dX4_takeNumber_123 fl_X4_105 kl_3 (by decide) rfl io_2 (z := 6) rfl ?_
            
            refine s_callP (as := [_, _]) ((1 ≤ e - s ∧ e - s ≤ 5) ∧ lo ≤ r ∧ r ≤ hi) (fun q => hb q) dX4_takeNumber_126 vf_X4_108 (dd_ (by omega) (by decide)) rfl rfl (Nat.le_of_ble_eq_true rfl) kl_3 rfl io_2 (fun b1 b2 Q1 hb1 k1 kx1 => ?_)
            exact c_X4_demand (by omega) (fun q => hb1 (by omega)) RhG (hG.2 _ _) (Or.inl rfl) (f := s) (by omega) (by omega) (fun q => absurd rfl q) (fun q h' X => kx1 _ _ _ (by omega) (kx (by omega) h' X))
          · refine s_iload_n dX4_takeNumber_112 rfl ?_
            refine s_iload_n dX4_takeNumber_113 rfl ?_
            refine s_icmp_gt (tgt := 121) dX4_takeNumber_114 (by decide) (by first | exact hG.2 _ _ | exact b01_in _ | assumption | exact ⟨by omega, by omega⟩) (by first | exact hG.2 _ _ | exact b01_in _ | assumption | exact ⟨by omega, by omega⟩) (fun c5 => ?_) (fun c5 => ?_)
            · refine s_iconst dX4_takeNumber_121 ?_
              refine s_aload_n dX4_takeNumber_122 rfl ?_
              refine s_geti dX4_takeNumber_123 fl_X4_105 kl_3 (by decide) rfl io_2 (z := 6) rfl ?_
              
              refine s_callP (as := [_, _]) ((1 ≤ e - s ∧ e - s ≤ 5) ∧ lo ≤ r ∧ r ≤ hi) (fun q => hb q) dX4_takeNumber_126 vf_X4_108 (dd_ (by omega) (by decide)) rfl rfl (Nat.le_of_ble_eq_true rfl) kl_3 rfl io_2 (fun b1 b2 Q1 hb1 k1 kx1 => ?_)
              exact c_X4_demand (by omega) (fun q => hb1 (by omega)) RhG (hG.2 _ _) (Or.inl rfl) (f := s) (by omega) (by omega) (fun q => absurd rfl q) (fun q h' X => kx1 _ _ _ (by omega) (kx (by omega) h' X))
            · refine s_iconst dX4_takeNumber_117 ?_
              refine s_goto (tgt := 122) dX4_takeNumber_118 (by decide) ?_
              refine s_aload_n dX4_takeNumber_122 rfl ?_
              refine s_geti dX4_takeNumber_123 fl_X4_105 kl_3 (by decide) rfl io_2 (z := 6) rfl ?_
              
              refine s_callP (as := [_, _]) ((1 ≤ e - s ∧ e - s ≤ 5) ∧ lo ≤ r ∧ r ≤ hi) (fun q => hb q) dX4_takeNumber_126 vf_X4_108 (dd_ (by omega) (by decide)) rfl rfl (Nat.le_of_ble_eq_true rfl) kl_3 rfl io_2 (fun b1 b2 Q1 hb1 k1 kx1 => ?_)
              refine c_X4_demand (by omega) (fun q => absurd q (by decide)) RhG (hG.2 _ _) (Or.inr rfl) (f := s) (by omega) (by omega) (fun q => k1 _ _ _ (by omega) ?_) (fun q => absurd q (by decide))
              refine s_iload_n dX4_takeNumber_129 rfl ?_
              rw [er]
              exact s_ireturn dX4_takeNumber_130 rfl (k (by omega) _ (by rw [← ee]; exact RhG))
    · exact absurd c1 (by omega)
  | succ m ih =>
    intro a w h sa am he hv RhG
    have hG := RhG.1.1
    have dhG := RhG.2.1
    have hn := E.2.1
    have tx := rs_tx E RhG (by omega)
    have ds := de_st (T := T) (n := n) (a := a)
    refine s_aload_n dX4_takeNumber_14 rfl ?_
    refine s_geti dX4_takeNumber_15 fl_X4_36 kl_3 (by decide) rfl io_2 (z := 5) rfl ?_
    refine s_aload_n dX4_takeNumber_18 rfl ?_
    refine s_geti dX4_takeNumber_19 fl_X4_33 kl_3 (by decide) rfl io_2 (z := 4) rfl ?_
    refine s_icmp_ge (tgt := 84) dX4_takeNumber_22 (by decide) (by first | exact hG.2 _ _ | exact b01_in _ | assumption | exact ⟨by omega, by omega⟩) (by first | exact hG.2 _ _ | exact b01_in _ | assumption | exact ⟨by omega, by omega⟩) (fun c1 => ?_) (fun c1 => ?_)
    · exact absurd c1 (by omega)
    · refine s_aload_n dX4_takeNumber_25 rfl ?_
      refine s_getr dX4_takeNumber_26 fl_X4_29 kl_3 (by decide) rfl io_2 (z := 3) rfl (rf_3_3 hG.1 io_2) (rk_3_3 io_2).1 ?_
      refine s_aload_n dX4_takeNumber_29 rfl ?_
      refine s_geti dX4_takeNumber_30 fl_X4_36 kl_3 (by decide) rfl io_2 (z := 5) rfl ?_
      refine s_baload1 dX4_takeNumber_33 (rk_3_3 io_2) (by omega) (by omega) ?_
      refine s_callS (d' := d - 1) (bc' := 0) (bs' := 0) (as := [_]) dX4_takeNumber_34 sf_X4_225 (dd_ (by omega) (by decide)) ⟨Nat.zero_le _, Nat.zero_le _⟩ rfl rfl (Nat.le_of_ble_eq_true rfl) ?_
      refine c_X4_isDigit (hG.2 _ _) ?_
      refine s_if_eq (tgt := 84) dX4_takeNumber_37 (by decide) (by first | exact hG.2 _ _ | exact b01_in _ | assumption | exact ⟨by omega, by omega⟩) (fun c2 => ?_) (fun c2 => ?_)
      · have c2 := b01_0.mp c2
        have ee : a = e := by rw [← he]; exact (ds (by omega)).symm
        have er : w = r := by rw [← hv, show (e - a).toNat = 0 by omega, vl_]
        refine s_aload_n dX4_takeNumber_84 rfl ?_
        refine s_geti dX4_takeNumber_85 fl_X4_36 kl_3 (by decide) rfl io_2 (z := 5) rfl ?_
        refine s_aload_n dX4_takeNumber_88 rfl ?_
        refine s_geti dX4_takeNumber_89 fl_X4_105 kl_3 (by decide) rfl io_2 (z := 6) rfl ?_
        refine s_isub dX4_takeNumber_92 ?_
        refine s_istore dX4_takeNumber_93 (by decide) rfl (L' := [_, _, _, _, _]) rfl ?_
        refine s_aload_n dX4_takeNumber_95 rfl ?_
        refine s_iload dX4_takeNumber_96 rfl ?_
        refine s_if_le (tgt := 121) dX4_takeNumber_98 (by decide) (by first | exact hG.2 _ _ | exact b01_in _ | assumption | exact ⟨by omega, by omega⟩) (fun c3 => ?_) (fun c3 => ?_)
        · refine s_iconst dX4_takeNumber_121 ?_
          refine s_aload_n dX4_takeNumber_122 rfl ?_
          refine s_geti dX4_takeNumber_123 fl_X4_105 kl_3 (by decide) rfl io_2 (z := 6) rfl ?_
          
          refine s_callP (as := [_, _]) ((1 ≤ e - s ∧ e - s ≤ 5) ∧ lo ≤ r ∧ r ≤ hi) (fun q => hb q) dX4_takeNumber_126 vf_X4_108 (dd_ (by omega) (by decide)) rfl rfl (Nat.le_of_ble_eq_true rfl) kl_3 rfl io_2 (fun b1 b2 Q1 hb1 k1 kx1 => ?_)
          exact c_X4_demand (by omega) (fun q => hb1 (by omega)) RhG (hG.2 _ _) (Or.inl rfl) (f := s) (by omega) (by omega) (fun q => absurd rfl q) (fun q h' X => kx1 _ _ _ (by omega) (kx (by omega) h' X))
        · refine s_iload dX4_takeNumber_101 rfl ?_
          refine s_iconst dX4_takeNumber_103 ?_
          refine s_icmp_gt (tgt := 121) dX4_takeNumber_104 (by decide) (by first | exact hG.2 _ _ | exact b01_in _ | assumption | exact ⟨by omega, by omega⟩) (by first | exact hG.2 _ _ | exact b01_in _ | assumption | exact ⟨by omega, by omega⟩) (fun c4 => ?_) (fun c4 => ?_)
          · refine s_iconst dX4_takeNumber_121 ?_
            refine s_aload_n dX4_takeNumber_122 rfl ?_
            refine s_geti dX4_takeNumber_123 fl_X4_105 kl_3 (by decide) rfl io_2 (z := 6) rfl ?_
            
            refine s_callP (as := [_, _]) ((1 ≤ e - s ∧ e - s ≤ 5) ∧ lo ≤ r ∧ r ≤ hi) (fun q => hb q) dX4_takeNumber_126 vf_X4_108 (dd_ (by omega) (by decide)) rfl rfl (Nat.le_of_ble_eq_true rfl) kl_3 rfl io_2 (fun b1 b2 Q1 hb1 k1 kx1 => ?_)
            exact c_X4_demand (by omega) (fun q => hb1 (by omega)) RhG (hG.2 _ _) (Or.inl rfl) (f := s) (by omega) (by omega) (fun q => absurd rfl q) (fun q h' X => kx1 _ _ _ (by omega) (kx (by omega) h' X))
          · refine s_iload_n dX4_takeNumber_107 rfl ?_
            refine s_iload_n dX4_takeNumber_108 rfl ?_
            refine s_icmp_lt (tgt := 121) dX4_takeNumber_109 (by decide) (by first | exact hG.2 _ _ | exact b01_in _ | assumption | exact ⟨by omega, by omega⟩) (by first | exact hG.2 _ _ | exact b01_in _ | assumption | exact ⟨by omega, by omega⟩) (fun c5 => ?_) (fun c5 => ?_)
            · refine s_iconst dX4_takeNumber_121 ?_
              refine s_aload_n dX4_takeNumber_122 rfl ?_
              refine s_geti dX4_takeNumber_123 fl_X4_105 kl_3 (by decide) rfl io_2 (z := 6) rfl ?_
              
              refine s_callP (as := [_, _]) ((1 ≤ e - s ∧ e - s ≤ 5) ∧ lo ≤ r ∧ r ≤ hi) (fun q => hb q) dX4_takeNumber_126 vf_X4_108 (dd_ (by omega) (by decide)) rfl rfl (Nat.le_of_ble_eq_true rfl) kl_3 rfl io_2 (fun b1 b2 Q1 hb1 k1 kx1 => ?_)
              exact c_X4_demand (by omega) (fun q => hb1 (by omega)) RhG (hG.2 _ _) (Or.inl rfl) (f := s) (by omega) (by omega) (fun q => absurd rfl q) (fun q h' X => kx1 _ _ _ (by omega) (kx (by omega) h' X))
            · refine s_iload_n dX4_takeNumber_112 rfl ?_
              refine s_iload_n dX4_takeNumber_113 rfl ?_
              refine s_icmp_gt (tgt := 121) dX4_takeNumber_114 (by decide) (by first | exact hG.2 _ _ | exact b01_in _ | assumption | exact ⟨by omega, by omega⟩) (by first | exact hG.2 _ _ | exact b01_in _ | assumption | exact ⟨by omega, by omega⟩) (fun c6 => ?_) (fun c6 => ?_)
              · refine s_iconst dX4_takeNumber_121 ?_
                refine s_aload_n dX4_takeNumber_122 rfl ?_
                refine s_geti dX4_takeNumber_123 fl_X4_105 kl_3 (by decide) rfl io_2 (z := 6) rfl ?_
                
                refine s_callP (as := [_, _]) ((1 ≤ e - s ∧ e - s ≤ 5) ∧ lo ≤ r ∧ r ≤ hi) (fun q => hb q) dX4_takeNumber_126 vf_X4_108 (dd_ (by omega) (by decide)) rfl rfl (Nat.le_of_ble_eq_true rfl) kl_3 rfl io_2 (fun b1 b2 Q1 hb1 k1 kx1 => ?_)
                exact c_X4_demand (by omega) (fun q => hb1 (by omega)) RhG (hG.2 _ _) (Or.inl rfl) (f := s) (by omega) (by omega) (fun q => absurd rfl q) (fun q h' X => kx1 _ _ _ (by omega) (kx (by omega) h' X))
              · refine s_iconst dX4_takeNumber_117 ?_
                refine s_goto (tgt := 122) dX4_takeNumber_118 (by decide) ?_
                refine s_aload_n dX4_takeNumber_122 rfl ?_
                refine s_geti dX4_takeNumber_123 fl_X4_105 kl_3 (by decide) rfl io_2 (z := 6) rfl ?_
                
                refine s_callP (as := [_, _]) ((1 ≤ e - s ∧ e - s ≤ 5) ∧ lo ≤ r ∧ r ≤ hi) (fun q => hb q) dX4_takeNumber_126 vf_X4_108 (dd_ (by omega) (by decide)) rfl rfl (Nat.le_of_ble_eq_true rfl) kl_3 rfl io_2 (fun b1 b2 Q1 hb1 k1 kx1 => ?_)
                refine c_X4_demand (by omega) (fun q => absurd q (by decide)) RhG (hG.2 _ _) (Or.inr rfl) (f := s) (by omega) (by omega) (fun q => k1 _ _ _ (by omega) ?_) (fun q => absurd q (by decide))
                refine s_iload_n dX4_takeNumber_129 rfl ?_
                rw [er]
                exact s_ireturn dX4_takeNumber_130 rfl (k (by omega) _ (by rw [← ee]; exact RhG))
      · have c2 := b01_n.mp c2
        refine s_aload_n dX4_takeNumber_40 rfl ?_
        refine s_geti dX4_takeNumber_41 fl_X4_36 kl_3 (by decide) rfl io_2 (z := 5) rfl ?_
        refine s_aload_n dX4_takeNumber_44 rfl ?_
        refine s_geti dX4_takeNumber_45 fl_X4_105 kl_3 (by decide) rfl io_2 (z := 6) rfl ?_
        refine s_isub dX4_takeNumber_48 ?_
        refine s_iconst dX4_takeNumber_49 ?_
        refine s_icmp_ge (tgt := 71) dX4_takeNumber_50 (by decide) (by first | exact hG.2 _ _ | exact b01_in _ | assumption | exact ⟨by omega, by omega⟩) (by first | exact hG.2 _ _ | exact b01_in _ | assumption | exact ⟨by omega, by omega⟩) (fun c7 => ?_) (fun c7 => ?_)
        · refine s_aload_n dX4_takeNumber_71 rfl ?_
          refine s_dup dX4_takeNumber_72 rfl ?_
          refine s_geti dX4_takeNumber_73 fl_X4_36 kl_3 (by decide) rfl io_2 (z := 5) rfl ?_
          refine s_iconst dX4_takeNumber_76 ?_
          refine s_iadd dX4_takeNumber_77 ?_
          refine s_putiG 5 dX4_takeNumber_78 fl_X4_36 kl_3 (by decide) rfl rfl io_2 (z := 5) rfl (by decide +kernel) hG (by first | exact hG.2 _ _ | exact b01_in _ | assumption | exact ⟨by omega, by omega⟩) (fun hG1 => ?_)
          refine s_goto (tgt := 14) dX4_takeNumber_81 (by decide) ?_
          have u1 := de_up (T := T) (n := n) (a := a) (by omega) (by omega)
          have u2 := de_bd (T := T) (n := n) (a := a + 1) (by omega)
          have u3 : vl_ T s (e - (a + 1)).toNat (a + 1) (if a - s < 5 then w * 10 + (T a - 48) else w) = r := by rw [← hv, show (e - a).toNat = (e - (a + 1)).toNat + 1 by omega, vl_]
          first
            | (rw [if_pos (by omega)] at u3; rw [tx (by omega)]; exact ih (a + 1) _ _ (by omega) (by omega) (by rw [← he]; exact u1.symm) u3 (rs_at E RhG hG1 (by omega)))
            | (rw [if_neg (by omega)] at u3; exact ih (a + 1) _ _ (by omega) (by omega) (by rw [← he]; exact u1.symm) u3 (rs_at E RhG hG1 (by omega)))
        · refine s_iload_n dX4_takeNumber_53 rfl ?_
          refine s_bipush dX4_takeNumber_54 (by decide) ?_
          refine s_imul dX4_takeNumber_56 ?_
          refine s_aload_n dX4_takeNumber_57 rfl ?_
          refine s_getr dX4_takeNumber_58 fl_X4_29 kl_3 (by decide) rfl io_2 (z := 3) rfl (rf_3_3 hG.1 io_2) (rk_3_3 io_2).1 ?_
          refine s_aload_n dX4_takeNumber_61 rfl ?_
          refine s_geti dX4_takeNumber_62 fl_X4_36 kl_3 (by decide) rfl io_2 (z := 5) rfl ?_
          refine s_baload1 dX4_takeNumber_65 (rk_3_3 io_2) (by omega) (by omega) ?_
          refine s_bipush dX4_takeNumber_66 (by decide) ?_
          refine s_isub dX4_takeNumber_68 ?_
          refine s_iadd dX4_takeNumber_69 ?_
          refine s_istore_n dX4_takeNumber_70 (by decide) rfl (L' := [_, _, _, _, _]) rfl ?_
          refine s_aload_n dX4_takeNumber_71 rfl ?_
          refine s_dup dX4_takeNumber_72 rfl ?_
          refine s_geti dX4_takeNumber_73 fl_X4_36 kl_3 (by decide) rfl io_2 (z := 5) rfl ?_
          refine s_iconst dX4_takeNumber_76 ?_
          refine s_iadd dX4_takeNumber_77 ?_
          refine s_putiG 5 dX4_takeNumber_78 fl_X4_36 kl_3 (by decide) rfl rfl io_2 (z := 5) rfl (by decide +kernel) hG (by first | exact hG.2 _ _ | exact b01_in _ | assumption | exact ⟨by omega, by omega⟩) (fun hG2 => ?_)
          refine s_goto (tgt := 14) dX4_takeNumber_81 (by decide) ?_
          have u1 := de_up (T := T) (n := n) (a := a) (by omega) (by omega)
          have u2 := de_bd (T := T) (n := n) (a := a + 1) (by omega)
          have u3 : vl_ T s (e - (a + 1)).toNat (a + 1) (if a - s < 5 then w * 10 + (T a - 48) else w) = r := by rw [← hv, show (e - a).toNat = (e - (a + 1)).toNat + 1 by omega, vl_]
          first
            | (rw [if_pos (by omega)] at u3; rw [tx (by omega)]; exact ih (a + 1) _ _ (by omega) (by omega) (by rw [← he]; exact u1.symm) u3 (rs_at E RhG hG2 (by omega)))
            | (rw [if_neg (by omega)] at u3; exact ih (a + 1) _ _ (by omega) (by omega) (by rw [← he]; exact u1.symm) u3 (rs_at E RhG hG2 (by omega)))
set_option maxRecDepth 100000 in
set_option maxHeartbeats 4000000 in
theorem c_X4_takeNumber {lo hi : Int} (hd : 8 ≤ d) (hlo : inI lo) (hhi : inI hi) (hb : ¬ okN T n a lo hi → 1 ≤ bc ∧ 6 ≤ bs) (E : EV_ h0 v n T) (RhG : RS_ h0 v n m a s y h) (a0 : 0 ≤ a) (a1 : a ≤ n) (k : okN T n a lo hi → ∀ h' : PH, RS_ h0 v n m (dn_ T n a) (nb_ T n a) y h' → Q.1 (some (0, dv_ T n a)) nN h') (kx : ¬ okN T n a lo hi → ∀ h' : PH, RX_ h0 v (nb_ T n a) h' → Q.2 IAE nN h') : Cl_ yX4_takeNumber MX4_takeNumber d bc bs [(2, 2), (0, lo), (0, hi)] nN h Q := by
  refine s_enter pn_X4 rfl (Nat.le_of_ble_eq_true rfl) (L := [(2, _), (0, _), (0, _), (9, 0), (9, 0)]) rfl ?_
  have hG := RhG.1.1
  have dhG := RhG.2.1
  have hn := E.2.1
  have bd := dn_bd (T := T) a1
  refine s_aload_n dX4_takeNumber_0 rfl ?_
  refine s_callV (d' := d - 1) (bc' := 0) (bs' := 0) (as := []) dX4_takeNumber_1 vf_X4_43 (dd_ (by omega) (by decide)) ⟨Nat.zero_le _, Nat.zero_le _⟩ rfl rfl (Nat.le_of_ble_eq_true rfl) kl_3 rfl io_2 ?_
  refine c_X4_skipBlanks E RhG a0 a1 (fun hhG1 RhG1 => ?_)
  have hG1 := RhG1.1.1
  have dhG1 := RhG1.2.1
  have phG1 := RhG1.2.2.1.1
  refine s_aload_n dX4_takeNumber_4 rfl ?_
  refine s_aload_n dX4_takeNumber_5 rfl ?_
  refine s_geti dX4_takeNumber_6 fl_X4_36 kl_3 (by decide) rfl io_2 (z := 5) rfl ?_
  refine s_putiG 6 dX4_takeNumber_9 fl_X4_105 kl_3 (by decide) rfl rfl io_2 (z := 6) rfl (by decide +kernel) hG1 (by first | exact hG1.2 _ _ | exact hG.2 _ _ | exact b01_in _ | assumption | exact ⟨by omega, by omega⟩) (fun hG2 => ?_)
  refine s_iconst dX4_takeNumber_12 ?_
  refine s_istore_n dX4_takeNumber_13 (by decide) rfl (L' := [_, _, _, _, _]) rfl ?_
  exact lp_X4_takeNumber hd hlo hhi E (by omega) nv_bd hb k kx (n - nb_ T n a).toNat (nb_ T n a) 0 _ (Int.le_refl _) (by omega) rfl rfl (rs_ss E RhG1 hG2 (by omega))
end X4A
