/-! the reference reads its text -/
section X9ZE
variable {d bc bs : Nat} {Q : PQ} {h h0 z : PH} {n : Int} {T : Int → Int}
set_option maxRecDepth 100000 in
set_option maxHeartbeats 4000000 in
theorem c_X9_fails {t : Int} (hG : G h) (ht : inI t) (k : G (hs_ h 196 0 t) → Q.1 (some (0, 0)) nN (hs_ h 196 0 t)) : Cl_ yX9_fails MX9_fails d bc bs [(2, 196), (0, t)] nN h Q := by
  refine s_enter pn_X9 rfl (Nat.le_of_ble_eq_true rfl) (L := [(2, _), (0, _)]) rfl ?_
  refine s_aload_n dX9_fails_0 rfl ?_
  refine s_iload_n dX9_fails_1 rfl ?_
  refine s_putiG 0 dX9_fails_2 fl_X9_98 kl_7 (by decide) rfl rfl io_196 (z := 0) rfl (by decide +kernel) hG (by first | exact hG.2 _ _ | exact b01_in _ | assumption | exact ⟨by omega, by omega⟩) (fun hG1 => ?_)
  refine s_iconst dX9_fails_5 ?_
  exact s_ireturn dX9_fails_6 rfl (k hG1)
set_option maxRecDepth 100000 in
set_option maxHeartbeats 4000000 in
theorem lp_X9_rdA  (K : ∀ h : PH, G h → (∀ x y : Int, ¬ x = 196 + 10 → h x y = h0 x y) → (∀ j : Int, 0 ≤ j → j < 61 → h (196 + 10) j = 0) → S_ MX9_read d bc bs Q 64 [(2, 196), (0, 61)] [] nN h) : ∀ (m : Nat) (i : Int) (h : PH), (0 ≤ i) → (i + m = 61) → (G h) → (∀ x y : Int, ¬ x = 196 + 10 → h x y = h0 x y) → (∀ j : Int, 0 ≤ j → j < i → h (196 + 10) j = 0) → S_ MX9_read d bc bs Q 45 [(2, 196), (0, i)] [] nN h := by
  intro m
  induction m with
  | zero =>
    intro i h i0 im hG fr H
    refine s_iload_n dX9_read_45 rfl ?_
    refine s_bipush dX9_read_46 (by decide) ?_
    refine s_icmp_ge (tgt := 64) dX9_read_48 (by decide) (by first | exact hG.2 _ _ | exact b01_in _ | assumption | exact ⟨by omega, by omega⟩) (by first | exact hG.2 _ _ | exact b01_in _ | assumption | exact ⟨by omega, by omega⟩) (fun c1 => ?_) (fun c1 => ?_)
    · have e : i = 61 := by omega
      subst e
      exact K h hG fr H
    · exact absurd c1 (by omega)
  | succ m ih =>
    intro i h i0 im hG fr H
    refine s_iload_n dX9_read_45 rfl ?_
    refine s_bipush dX9_read_46 (by decide) ?_
    refine s_icmp_ge (tgt := 64) dX9_read_48 (by decide) (by first | exact hG.2 _ _ | exact b01_in _ | assumption | exact ⟨by omega, by omega⟩) (by first | exact hG.2 _ _ | exact b01_in _ | assumption | exact ⟨by omega, by omega⟩) (fun c1 => ?_) (fun c1 => ?_)
    · exact absurd c1 (by omega)
    · refine s_aload_n dX9_read_51 rfl ?_
      refine s_getr dX9_read_52 fl_X9_43 kl_7 (by decide) rfl io_196 (z := 22) rfl (rf_7_22 hG.1 io_196) (rk_7_22 io_196).1 ?_
      refine s_iload_n dX9_read_55 rfl ?_
      refine s_iconst dX9_read_56 ?_
      refine s_iastoreG dX9_read_57 (rk_7_22 io_196) (by omega) (by omega) hG (by first | exact hG.2 _ _ | exact b01_in _ | assumption | exact ⟨by omega, by omega⟩) (fun hG1 => ?_)
      refine s_iinc dX9_read_58 rfl (by decide) rfl (L' := [_, _]) rfl ?_
      refine s_goto (tgt := 45) dX9_read_61 (by decide) ?_
      refine ih (i + 1) _ (by omega) (by omega) hG1 (fun x y c => by rw [hs_ne _ (by omega)]; exact fr x y c) (fun j j0 j1 => ?_)
      by_cases q : j = i
      · rw [q, hs_eq]
      · rw [hs_ne _ (by omega)]
        exact H j j0 (by omega)
/-- right so far, it goes on at a -/
def RO_ (n : Int) (T : Int → Int) (h0 : PH) (a : Int) (y h : PH) : Prop := RN_ n T h ∧ FL_ h0 h ∧ h 196 17 = -1 ∧ nb_ T n (h 196 16) = a ∧ LN_ y h
/-- .. it ends here -/
def RE_ (n : Int) (T : Int → Int) (h0 : PH) (u : OU) (h : PH) : Prop := RN_ n T h ∧ FL_ h0 h ∧ h 196 17 = u.1 ∧ (u.1 = -1 → LN_ u.2.2 h) ∧ (¬ u.1 = -1 → 0 ≤ u.1 ∧ u.1 ≤ n)
theorem hc_no {s : Int} (c : s < n) : ¬ hc_ T n s = -1 := by
  unfold hc_
  rw [if_pos c]
  omega
theorem hc_end {s : Int} (c : ¬ s < n) : hc_ T n s = -1 := if_neg c
theorem hc_in {s : Int} : inI (hc_ T n s) := by
  unfold hc_
  split <;> exact ⟨by omega, by omega⟩
theorem nn_c {c : Prop} (h : c) : ¬ ¬ c := fun q => q h
set_option maxRecDepth 100000 in
set_option maxHeartbeats 4000000 in
theorem rd_w {u : OU} {h : PH} (hd : 1 ≤ d) (R : RE_ n T h0 u h) (w : ¬ u.1 = -1) (K : ∀ h : PH, RE_ n T h0 u h → S_ MX9_read d bc bs Q 94 [(2, 196), (0, 61)] [] nN h) : S_ MX9_read d bc bs Q 72 [(2, 196), (0, 61)] [] nN h := by
  have hG := R.1.1
  refine s_aload_n dX9_read_72 rfl ?_
  refine s_callV (d' := d - 1) (bc' := 0) (bs' := 0) (as := []) dX9_read_73 vf_X9_114 (dd_ (by omega) (by decide)) ⟨Nat.zero_le _, Nat.zero_le _⟩ rfl rfl (Nat.le_of_ble_eq_true rfl) kl_7 rfl io_196 ?_
  refine c_X9_isWrong hG ?_
  rw [R.2.2.1, b01_t w]
  refine s_if_ne (tgt := 94) dX9_read_76 (by decide) (by first | exact hG.2 _ _ | exact b01_in _ | assumption | exact ⟨by omega, by omega⟩) (fun c1 => ?_) (fun c1 => ?_)
  · have c1 := c1
    exact K _ R
  · exact absurd c1 (by decide)
set_option maxRecDepth 100000 in
set_option maxHeartbeats 4000000 in
theorem lp_X9_rd {u0 : OU} (hd : 11 ≤ d) (hT : ∀ k : Int, 0 ≤ k → k < n → -128 ≤ T k ∧ T k < 128) (K : ∀ h : PH, RE_ n T h0 u0 h → S_ MX9_read d bc bs Q 94 [(2, 196), (0, 61)] [] nN h) : ∀ (m : Nat) (a : Int) (y h : PH), 0 ≤ a → n ≤ a + m → pRead T n m a y = u0 → RO_ n T h0 a y h → S_ MX9_read d bc bs Q 72 [(2, 196), (0, 61)] [] nN h := by
  intro m
  induction m with
  | zero =>
    intro a y h i0 im hp R
    have hG := R.1.1
    refine s_aload_n dX9_read_72 rfl ?_
    refine s_callV (d' := d - 1) (bc' := 0) (bs' := 0) (as := []) dX9_read_73 vf_X9_114 (dd_ (by omega) (by decide)) ⟨Nat.zero_le _, Nat.zero_le _⟩ rfl rfl (Nat.le_of_ble_eq_true rfl) kl_7 rfl io_196 ?_
    refine c_X9_isWrong hG ?_
    rw [R.2.2.1, b01_f (fun q => q rfl)]
    refine s_if_ne (tgt := 94) dX9_read_76 (by decide) (by first | exact hG.2 _ _ | exact b01_in _ | assumption | exact ⟨by omega, by omega⟩) (fun c1 => ?_) (fun c1 => ?_)
    · exact absurd rfl c1
    · have c1 := c1
      refine s_aload_n dX9_read_79 rfl ?_
      refine s_callV (d' := d - 1) (bc' := 0) (bs' := 0) (as := []) dX9_read_80 vf_X9_110 (dd_ (by omega) (by decide)) ⟨Nat.zero_le _, Nat.zero_le _⟩ rfl rfl (Nat.le_of_ble_eq_true rfl) kl_7 rfl io_196 ?_
      refine c_X9_here R.1 (fun h2 R2 f2 e2 => ?_)
      rw [R.2.2.2.1] at e2
      rw [R.2.2.2.1]
      have hG1 := R2.1
      have hcI := hc_in (T := T) (n := n) (s := a)
      refine s_iconst dX9_read_83 ?_
      refine s_icmp_eq (tgt := 94) dX9_read_84 (by decide) (by first | exact hG1.2 _ _ | exact hG.2 _ _ | exact b01_in _ | assumption | exact ⟨by omega, by omega⟩) (by first | exact hG1.2 _ _ | exact hG.2 _ _ | exact b01_in _ | assumption | exact ⟨by omega, by omega⟩) (fun c2 => ?_) (fun c2 => ?_)
      · have hp : ((-1 : Int), a, y) = u0 := hp
        refine K _ ⟨R2, fl_tr R.2.1 (fun x y p _ => f2 x y (by omega)), ?_, fun _ => ?_, fun q => ?_⟩
        · rw [f2 _ _ (by omega), R.2.2.1, ← hp]
        · rw [← hp]
          exact ln_aw R.2.2.2.2 (fun x y p => f2 x y (by omega))
        · exact absurd (by rw [← hp]) q
      · exact absurd (hc_end (T := T) (by omega)) c2
  | succ m ih =>
    intro a y h i0 im hp R
    have hG := R.1.1
    refine s_aload_n dX9_read_72 rfl ?_
    refine s_callV (d' := d - 1) (bc' := 0) (bs' := 0) (as := []) dX9_read_73 vf_X9_114 (dd_ (by omega) (by decide)) ⟨Nat.zero_le _, Nat.zero_le _⟩ rfl rfl (Nat.le_of_ble_eq_true rfl) kl_7 rfl io_196 ?_
    refine c_X9_isWrong hG ?_
    rw [R.2.2.1, b01_f (fun q => q rfl)]
    refine s_if_ne (tgt := 94) dX9_read_76 (by decide) (by first | exact hG.2 _ _ | exact b01_in _ | assumption | exact ⟨by omega, by omega⟩) (fun c1 => ?_) (fun c1 => ?_)
    · exact absurd rfl c1
    · have c1 := c1
      refine s_aload_n dX9_read_79 rfl ?_
      refine s_callV (d' := d - 1) (bc' := 0) (bs' := 0) (as := []) dX9_read_80 vf_X9_110 (dd_ (by omega) (by decide)) ⟨Nat.zero_le _, Nat.zero_le _⟩ rfl rfl (Nat.le_of_ble_eq_true rfl) kl_7 rfl io_196 ?_
      refine c_X9_here R.1 (fun h2 R2 f2 e2 => ?_)
      rw [R.2.2.2.1] at e2
      rw [R.2.2.2.1]
      have hG1 := R2.1
      have hcI := hc_in (T := T) (n := n) (s := a)
      refine s_iconst dX9_read_83 ?_
      refine s_icmp_eq (tgt := 94) dX9_read_84 (by decide) (by first | exact hG1.2 _ _ | exact hG.2 _ _ | exact b01_in _ | assumption | exact ⟨by omega, by omega⟩) (by first | exact hG1.2 _ _ | exact hG.2 _ _ | exact b01_in _ | assumption | exact ⟨by omega, by omega⟩) (fun c2 => ?_) (fun c2 => ?_)
      · have ce : ¬ a < n := fun q => hc_no (T := T) q c2
        rw [prd_e ce] at hp
        refine K _ ⟨R2, fl_tr R.2.1 (fun x y p _ => f2 x y (by omega)), ?_, fun _ => ?_, fun q => ?_⟩
        · rw [f2 _ _ (by omega), R.2.2.1, ← hp]
        · rw [← hp]
          exact ln_aw R.2.2.2.2 (fun x y p => f2 x y (by omega))
        · exact absurd (by rw [← hp]) q
      · --go
        refine s_aload_n dX9_read_87 rfl ?_
        refine s_callV (d' := d - 1) (bc' := 0) (bs' := 0) (as := []) dX9_read_88 vf_X9_266 (dd_ (by omega) (by decide)) ⟨Nat.zero_le _, Nat.zero_le _⟩ rfl rfl (Nat.le_of_ble_eq_true rfl) kl_7 rfl io_196 ?_
        have a1 : a ≤ n := by rw [← R.2.2.2.1]; exact (nb_bd R.1.2.2.1.2).2
        have S : OK9 n T h2 a h2 := ⟨R2, fun _ _ _ => rfl, (f2 _ _ (by omega)).trans R.2.2.1, Or.inl e2, a1⟩
        refine c_X9_line (by omega) S hT (ln_aw R.2.2.2.2 (fun x y p => f2 x y (by omega))) (fun h3 Z => ?_)
        have hG3 := Z.1.1
        have fl3 : FL_ h0 h3 := fl_tr (fl_tr R.2.1 (fun x y p _ => f2 x y (by omega))) Z.2.1
        have an : a < n := Classical.byContradiction fun q => c2 (hc_end q)
        refine s_goto (tgt := 72) dX9_read_91 (by decide) ?_
        rw [prd_s an] at hp
        by_cases q : (pLine T n a y).1 = -1
        · rw [iC_f (nn_c q)] at hp
          have pl := pe_line (T := T) (y := y) i0 a1 q
          rcases Z.2.2 with ⟨_, w1, w2, w3⟩ | ⟨w0, _⟩
          · exact ih _ _ _ (by omega) (by omega) hp ⟨Z.1, fl3, w1, w2, w3⟩
          · exact absurd q w0
        · rw [iC_t q] at hp
          rcases Z.2.2 with ⟨w0, _⟩ | ⟨w0, w1, w2⟩
          · exact absurd w0 q
          · refine rd_w (by omega) ⟨Z.1, fl3, ?_, fun e => ?_, fun _ => ?_⟩ ?_ K
            · rw [← hp]; exact w1
            · exact absurd (by rw [hp]; exact e) q
            · rw [← hp]; exact w2
            · rw [← hp]; exact q
set_option maxRecDepth 100000 in
set_option maxHeartbeats 4000000 in
theorem c_X9_read9 (hd : 11 ≤ d) (M : MR_ h z) (en : z 50 0 = n) {h1 : PH} (fr0 : ∀ x y : Int, ¬ (x = 196 ∧ (y = 0 ∨ (14 ≤ y ∧ y ≤ 21))) → ¬ x = 196 + 10 → h1 x y = h x y) (e14 : h1 196 14 = 0) (e0 : h1 196 0 = 0) (hn : 0 ≤ n ∧ n ≤ 400)
  (k : (zrd z).1 = -1 → MK_ Q h (zread z (zrd z).2.2) 0 ((zrd z).2.2 0 2)) (kx : ¬ (zrd z).1 = -1 → MK_ Q h (zwrong z (zrd z).1) 1 0) {h2 : PH} (R9 : RE_ n T h1 (zrd z) h2) : S_ MX9_read d bc bs Q 94 [(2, 196), (0, 61)] [] nN h2 := by
  have hG := R9.1.1
  refine s_aload_n dX9_read_94 rfl ?_
  refine s_callV (d' := d - 1) (bc' := 0) (bs' := 0) (as := []) dX9_read_95 vf_X9_114 (dd_ (by omega) (by decide)) ⟨Nat.zero_le _, Nat.zero_le _⟩ rfl rfl (Nat.le_of_ble_eq_true rfl) kl_7 rfl io_196 ?_
  refine c_X9_isWrong hG ?_
  refine s_if_eq (tgt := 107) dX9_read_98 (by decide) (by first | exact hG.2 _ _ | exact b01_in _ | assumption | exact ⟨by omega, by omega⟩) (fun c1 => ?_) (fun c1 => ?_)
  · have c1 := b01_0.mp c1
    refine s_aload_n dX9_read_107 rfl ?_
    refine s_callV (d' := d - 1) (bc' := 0) (bs' := 0) (as := []) dX9_read_108 vf_X9_272 (dd_ (by omega) (by decide)) ⟨Nat.zero_le _, Nat.zero_le _⟩ rfl rfl (Nat.le_of_ble_eq_true rfl) kl_7 rfl io_196 ?_
    have q9 : (zrd z).1 = -1 := Classical.byContradiction fun q => c1 (by rw [R9.2.2.1]; exact q)
    refine c_X9_takesAll hG (fun hh g9 K9 => ?_)
    have hG1 := g9
    refine s_aload_n dX9_read_111 rfl ?_
    refine s_geti dX9_read_112 fl_X9_275 kl_7 (by decide) rfl io_196 (z := 7) rfl ?_
    have P9 := R9.2.2.2.1 q9
    have hcnt : hh 196 7 = (zrd z).2.2 0 2 := by rw [K9.1.2.2.1, P9.1.2.2]
    rw [hcnt]
    refine s_ireturn dX9_read_115 rfl (k q9 _ ?_ ?_ ?_)
    · refine mr_read (mr_b M) P9 K9 g9 ?_ ?_ (fun k k0 k1 => ?_) ?_ (fun k k0 k1 => ?_)
      · rw [R9.2.1 _ _ (by omega) (by omega)]; exact e14
      · rw [R9.2.2.1]; exact q9
      · rw [R9.2.1 _ _ (by omega) (by omega), fr0 _ _ (by omega) (by omega)]; exact M.2.2.2.2.2.2.2.2.1.2 k k0 k1
      · rw [R9.2.1 _ _ (by omega) (by omega), fr0 _ _ (by omega) (by omega)]; exact M.2.2.2.2.2.2.2.2.2.2.1.1
      · rw [R9.2.1 _ _ (by omega) (by omega), fr0 _ _ (by omega) (by omega)]; exact M.2.2.2.2.2.2.2.2.2.2.1.2 k k0 k1
    · exact fun x y c => by rw [K9.2.2.2.2.2 _ _ (by omega) (by omega) (by omega), R9.2.1 _ _ (by omega) (by omega)]; exact fr0 x y (by omega) (by omega)
    · rw [K9.2.2.2.2.2 _ _ (by omega) (by omega) (by omega), R9.2.1 _ _ (by omega) (by omega)]; exact e0
  · have c1 := b01_n.mp c1
    refine s_aload_n dX9_read_101 rfl ?_
    refine s_iconst dX9_read_102 ?_
    refine s_callV (d' := d - 1) (bc' := 0) (bs' := 0) (as := [_]) dX9_read_103 vf_X9_269 (dd_ (by omega) (by decide)) ⟨Nat.zero_le _, Nat.zero_le _⟩ rfl rfl (Nat.le_of_ble_eq_true rfl) kl_7 rfl io_196 ?_
    have w : ¬ (zrd z).1 = -1 := by rw [← R9.2.2.1]; exact c1
    have wb := R9.2.2.2.2 w
    refine c_X9_fails hG ⟨by decide, by decide⟩ (fun hG2 => ?_)
    refine s_ireturn dX9_read_106 rfl (kx w _ ?_ ?_ (hs_eq _ _ _ _))
    · refine mr_wrong M hG2 (fun x k p q => ?_) ?_ ?_ wb.1 (by omega)
      · unfold pc_ at p
        rw [hs_ne _ (by omega), R9.2.1 _ _ (by omega) (by omega)]
        exact fr0 x k (by omega) (by omega)
      · rw [hs_ne _ (by omega), R9.2.1 _ _ (by omega) (by omega)]
        exact e14
      · rw [hs_ne _ (by omega)]
        exact R9.2.2.1
    · exact fun x y c => by rw [hs_ne _ (by omega), R9.2.1 _ _ (by omega) (by omega)]; exact fr0 x y (by omega) (by omega)
set_option maxRecDepth 100000 in
set_option maxHeartbeats 4000000 in
theorem c_X9_read  (hd : 12 ≤ d) (M : MR_ h z) (k : (zrd z).1 = -1 → MK_ Q h (zread z (zrd z).2.2) 0 ((zrd z).2.2 0 2)) (kx : ¬ (zrd z).1 = -1 → MK_ Q h (zwrong z (zrd z).1) 1 0) : Cl_ yX9_read MX9_read d bc bs [(2, 196)] nN h Q := by
  refine s_enter pn_X9 rfl (Nat.le_of_ble_eq_true rfl) (L := [(2, _), (9, 0)]) rfl ?_
  have hG := M.1
  have B := mr_b M
  obtain ⟨n, en⟩ : ∃ n : Int, z 50 0 = n := ⟨_, rfl⟩
  obtain ⟨T, eT⟩ : ∃ T : Int → Int, z 51 = T := ⟨_, rfl⟩
  have hn : 0 ≤ n ∧ n ≤ 400 := by rw [← en]; exact B.1
  have hT : ∀ k : Int, 0 ≤ k → k < n → -128 ≤ T k ∧ T k < 128 := fun k k0 k1 => by rw [← eT]; exact B.2.1 k k0 (by omega)
  have n14 : h 196 14 = n := by rw [← en]; exact M.2.2.2.2.2.2.2.2.1.1
  have b0 := nb_bd (T := T) (n := n) (a := 0) (by omega)
  have ez : zrd z = pRead T n 400 (nb_ T n 0) yz_ := by unfold zrd; rw [en, eT]
  have y0 : ∀ k : Int, yz_ 0 k = 0 := fun k => by rw [yz_ne (by omega)]
  refine s_aload_n dX9_read_0 rfl ?_
  refine s_iconst dX9_read_1 ?_
  refine s_putiG 0 dX9_read_2 fl_X9_98 kl_7 (by decide) rfl rfl io_196 (z := 0) rfl (by decide +kernel) hG (by first | exact hG.2 _ _ | exact b01_in _ | assumption | exact ⟨by omega, by omega⟩) (fun hG1 => ?_)
  refine s_aload_n dX9_read_5 rfl ?_
  refine s_aload_n dX9_read_6 rfl ?_
  refine s_geti dX9_read_7 fl_X9_101 kl_7 (by decide) rfl io_196 (z := 14) rfl ?_
  rw [hs_ne _ (by omega)]
  refine s_putiG 15 dX9_read_10 fl_X9_107 kl_7 (by decide) rfl rfl io_196 (z := 15) rfl (by decide +kernel) hG1 (by first | exact hG1.2 _ _ | exact hG.2 _ _ | exact b01_in _ | assumption | exact ⟨by omega, by omega⟩) (fun hG2 => ?_)
  refine s_aload_n dX9_read_13 rfl ?_
  refine s_iconst dX9_read_14 ?_
  refine s_putiG 14 dX9_read_15 fl_X9_101 kl_7 (by decide) rfl rfl io_196 (z := 14) rfl (by decide +kernel) hG2 (by first | exact hG2.2 _ _ | exact hG.2 _ _ | exact b01_in _ | assumption | exact ⟨by omega, by omega⟩) (fun hG3 => ?_)
  refine s_aload_n dX9_read_18 rfl ?_
  refine s_iconst dX9_read_19 ?_
  refine s_putiG 16 dX9_read_20 fl_X9_104 kl_7 (by decide) rfl rfl io_196 (z := 16) rfl (by decide +kernel) hG3 (by first | exact hG3.2 _ _ | exact hG.2 _ _ | exact b01_in _ | assumption | exact ⟨by omega, by omega⟩) (fun hG4 => ?_)
  refine s_aload_n dX9_read_23 rfl ?_
  refine s_iconst dX9_read_24 ?_
  refine s_putiG 17 dX9_read_25 fl_X9_39 kl_7 (by decide) rfl rfl io_196 (z := 17) rfl (by decide +kernel) hG4 (by first | exact hG4.2 _ _ | exact hG.2 _ _ | exact b01_in _ | assumption | exact ⟨by omega, by omega⟩) (fun hG5 => ?_)
  refine s_aload_n dX9_read_28 rfl ?_
  refine s_iconst dX9_read_29 ?_
  refine s_putiG 19 dX9_read_30 fl_X9_211 kl_7 (by decide) rfl rfl io_196 (z := 19) rfl (by decide +kernel) hG5 (by first | exact hG5.2 _ _ | exact hG.2 _ _ | exact b01_in _ | assumption | exact ⟨by omega, by omega⟩) (fun hG6 => ?_)
  refine s_aload_n dX9_read_33 rfl ?_
  refine s_iconst dX9_read_34 ?_
  refine s_putiG 20 dX9_read_35 fl_X9_204 kl_7 (by decide) rfl rfl io_196 (z := 20) rfl (by decide +kernel) hG6 (by first | exact hG6.2 _ _ | exact hG.2 _ _ | exact b01_in _ | assumption | exact ⟨by omega, by omega⟩) (fun hG7 => ?_)
  refine s_aload_n dX9_read_38 rfl ?_
  refine s_iconst dX9_read_39 ?_
  refine s_putiG 21 dX9_read_40 fl_X9_214 kl_7 (by decide) rfl rfl io_196 (z := 21) rfl (by decide +kernel) hG7 (by first | exact hG7.2 _ _ | exact hG.2 _ _ | exact b01_in _ | assumption | exact ⟨by omega, by omega⟩) (fun hG8 => ?_)
  refine s_iconst dX9_read_43 ?_
  refine s_istore_n dX9_read_44 (by decide) rfl (L' := [_, _]) rfl ?_
  refine lp_X9_rdA (h0 := _) (fun h1 g1 f1 z1 => ?_) 61 0 _ (Int.le_refl _) (by omega) hG8 (fun _ _ _ => rfl) (fun j j0 j1 => by omega)
  have hG := g1
  refine s_aload_n dX9_read_64 rfl ?_
  refine s_getr dX9_read_65 fl_X9_43 kl_7 (by decide) rfl io_196 (z := 22) rfl (rf_7_22 hG.1 io_196) (rk_7_22 io_196).1 ?_
  refine s_bipush dX9_read_68 (by decide) ?_
  refine s_iconst dX9_read_70 ?_
  refine s_iastoreG dX9_read_71 (rk_7_22 io_196) (by omega) (by omega) hG (by first | exact hG.2 _ _ | exact b01_in _ | assumption | exact ⟨by omega, by omega⟩) (fun hG1 => ?_)
  refine lp_X9_rd (n := n) (T := T) (by omega) hT (fun h9 R9 => c_X9_read9 (by omega) M en (h1 := _) ?_ ?_ ?_ hn k kx R9) 400 (nb_ T n 0) yz_ _ (by omega) (by omega) ez.symm ⟨⟨hG1, ?_, ?_, hn.2, fun k k0 k1 => ?_⟩, fun _ _ _ _ => rfl, ?_, ?_, ?_⟩
  · exact fun x y a b => by simp (disch := omega) only [hs_ne, f1]
  · simp (disch := omega) only [hs_ne, hs_same, f1]
  · simp (disch := omega) only [hs_ne, hs_same, f1]
  · simp (disch := omega) only [hs_ne, hs_same, f1]
    exact n14
  · simp (disch := omega) only [hs_ne, hs_same, f1]
    omega
  · simp (disch := omega) only [hs_ne, f1]
    rw [← eT]
    exact M.2.2.2.2.2.2.2.2.1.2 k k0 (by omega)
  · simp (disch := omega) only [hs_ne, hs_same, f1]
  · simp (disch := omega) only [hs_ne, hs_same, f1]
  · refine ⟨⟨?_, ?_, ?_⟩, fun k k0 k1 => ?_, fun t t0 t1 => ?_, fun t t0 t1 => ?_, fun t t0 t1 => ?_, fun g v g0 g1 => ?_, ?_, fun t t0 t1 => ?_, fun t t0 t1 => ?_⟩
    · simp (disch := omega) only [hs_ne, hs_same, f1]; rw [y0]
    · simp (disch := omega) only [hs_ne, hs_same, f1]; rw [y0]
    · simp (disch := omega) only [hs_ne, hs_same, f1]; rw [y0]
    · rw [yz_1]
      show _ = if pm_ k = 59 then (5 : Int) else 0
      by_cases q : k = 59
      · rw [q, hs_eq, pm_h (by omega), if_pos rfl]
      · rw [hs_ne _ (by omega), z1 k k0 k1, if_neg ?_]
        unfold pm_
        split <;> omega
    · rw [y0] at t1; omega
    · rw [y0] at t1; omega
    · rw [y0] at t1; omega
    · rw [y0] at g1; omega
    · rw [y0]; exact yz_yi
    · rw [y0] at t1; omega
    · rw [y0] at t1; omega
end X9ZE
