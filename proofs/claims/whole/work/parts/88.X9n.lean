/-! the reference: the tape, what is counted, what is written -/
theorem zi_oth {z z' : PH} (I : ZI z) (e : ∀ x : Int, x < 50 → z' x = z x) : ZI z' := by
  refine ⟨?_, ?_⟩
  · rw [zf_z, e 1 (by omega)]
    exact zf_z.mp I.1
  · unfold ZW
    rw [e 0 (by omega), e 2 (by omega), e 3 (by omega), e 5 (by omega), e 6 (by omega), e 7 (by omega), e 8 (by omega), e 9 (by omega)]
    exact I.2
/-- tape and text alone have changed -/
theorem mr_oth {h h' z z' : PH} (M : MR_ h z) (hG : G h') (e : ∀ x : Int, ¬ x = 50 → ¬ x = 51 → ¬ x = 54 → ¬ x = 55 → z' x = z x) (b50 : 0 ≤ z' 50 0 ∧ z' 50 0 ≤ 400) (b51 : ∀ k : Int, 0 ≤ k → k < 400 → -128 ≤ z' 51 k ∧ z' 51 k < 128) (b54 : 0 ≤ z' 54 0 ∧ z' 54 0 ≤ 300) (b55 : ∀ k : Int, 0 ≤ k → k < z' 54 0 → 0 ≤ z' 55 k ∧ z' 55 k < 128) (f : ∀ x k : Int, pc_ x k → ¬ x = 196 + 9 → ¬ x = 196 + 27 → ¬ (x = 196 ∧ (k = 14 ∨ k = 44)) → h' x k = h x k) (t1 : h' 196 14 = z' 50 0) (t2 : ∀ k : Int, 0 ≤ k → k < 400 → h' (196 + 9) k = z' 51 k) (w1 : h' 196 44 = z' 54 0) (w2 : ∀ k : Int, 0 ≤ k → k < z' 54 0 → h' (196 + 27) k = z' 55 k) : MR_ h' z' := by
  obtain ⟨-, ⟨a1, a2, a3⟩, a4, ⟨a5, a6⟩, a7, a8, a9, b1, ⟨b2, b3⟩, b4, ⟨b5, b6⟩, b7, b8⟩ := M
  have F : ∀ x k : Int, (x = 196 + 1 ∨ (196 + 3 ≤ x ∧ x ≤ 196 + 9) ∨ x = 196 + 27 ∨ (x = 196 ∧ ((4 ≤ k ∧ k ≤ 7) ∨ k = 14 ∨ k = 17 ∨ k = 44))) → ¬ x = 196 + 9 → ¬ x = 196 + 27 → ¬ (x = 196 ∧ (k = 14 ∨ k = 44)) → h' x k = h x k := f
  have e0 := e 0 (by omega) (by omega) (by omega) (by omega)
  have e53 := e 53 (by omega) (by omega) (by omega) (by omega)
  have hT := b7.2.1
  have hP := b7.2.2.1
  have hN := b7.2.2.2.1
  obtain ⟨d1, d2, d3, d4, d5, d6, d7, d8, d9⟩ := b8
  refine ⟨hG, ⟨by rw [F _ _ (by omega) (by omega) (by omega) (by omega), e0]; exact a1, by rw [F _ _ (by omega) (by omega) (by omega) (by omega), e0]; exact a2, by rw [F _ _ (by omega) (by omega) (by omega) (by omega), e0]; exact a3⟩, fun k p q => by rw [F _ _ (by omega) (by omega) (by omega) (by omega), e 1 (by omega) (by omega) (by omega) (by omega)]; exact a4 k p q, ⟨by rw [F _ _ (by omega) (by omega) (by omega) (by omega), e53]; exact a5, fun j k p q r s => ?_⟩, fun t p q => ?_, fun t p q => ?_, fun p a b => ?_, fun g v p q r s => ?_, ⟨t1, t2⟩, by rw [F _ _ (by omega) (by omega) (by omega) (by omega), e 52 (by omega) (by omega) (by omega) (by omega)]; exact b4, ⟨w1, w2⟩, zi_oth b7 (fun x hx => e x (by omega) (by omega) (by omega) (by omega)), ⟨b50, b51, by rw [e 52 (by omega) (by omega) (by omega) (by omega)]; exact d3, fun t a b => ?_, fun p a b => ?_, by rw [e53]; exact d6, fun j a b => ?_, b54, b55⟩⟩
  · rw [e53] at q
    rw [F _ _ (by omega) (by omega) (by omega) (by omega), e (60 + j) (by omega) (by omega) (by omega) (by omega)]
    exact a6 j k p q r s
  · rw [e0] at q
    rw [F _ _ (by omega) (by omega) (by omega) (by omega), e (20 + t) (by omega) (by omega) (by omega) (by omega), e 10 (by omega) (by omega) (by omega) (by omega)]
    exact a7 t p q
  · rw [e0] at q
    rw [F _ _ (by omega) (by omega) (by omega) (by omega), e (30 + t) (by omega) (by omega) (by omega) (by omega), e 11 (by omega) (by omega) (by omega) (by omega)]
    exact a8 t p q
  · rw [e0] at b
    rw [F _ _ (by omega) (by omega) (by omega) (by omega), F _ _ (by omega) (by omega) (by omega) (by omega), e 2 (by omega) (by omega) (by omega) (by omega), e 3 (by omega) (by omega) (by omega) (by omega)]
    exact a9 p a b
  · rw [e0] at q
    rw [F _ _ (by omega) (by omega) (by omega) (by omega), e (5 + v) (by omega) (by omega) (by omega) (by omega)]
    exact b1 g v p q r s
  · rw [e0] at b
    rw [e 10 (by omega) (by omega) (by omega) (by omega), e (20 + t) (by omega) (by omega) (by omega) (by omega)]
    exact d4 t a b
  · rw [e0] at b
    rw [e 11 (by omega) (by omega) (by omega) (by omega), e (30 + p) (by omega) (by omega) (by omega) (by omega)]
    exact d5 p a b
  · rw [e53] at b
    rw [e (60 + j) (by omega) (by omega) (by omega) (by omega)]
    exact d7 j a b
theorem mr_byte {h h' z : PH} {v : Int} (M : MR_ h z) (hG : G h') (l : z 50 0 < 400) (f : ∀ x k : Int, ¬ (x = 196 + 9 ∧ k = z 50 0) → ¬ (x = 196 ∧ k = 14) → h' x k = h x k) (f1 : h' 196 14 = z 50 0 + 1) (f2 : h' (196 + 9) (z 50 0) = Int.bmod v 256) : MR_ h' (zbyte z v) := by
  have B := mr_b M
  have ne := fun (x : Int) a b => zbyte_ne (z := z) (v := v) (x := x) a b
  have tp := M.2.2.2.2.2.2.2.2.1
  have wr := M.2.2.2.2.2.2.2.2.2.2.1
  refine mr_oth M hG (fun x a b _ _ => ne x a b) (by rw [zbyte_50]; have := B.1; omega) (fun k a b => ?_) (by rw [ne _ (by omega) (by omega)]; exact B.2.2.2.2.2.2.2.1) (by rw [ne _ (by omega) (by omega), ne _ (by omega) (by omega)]; exact B.2.2.2.2.2.2.2.2) (fun x k _ b _ e => f x k (by omega) (by omega)) (by rw [zbyte_50]; exact f1) (fun k a b => ?_) (by rw [ne _ (by omega) (by omega), f _ _ (by omega) (by omega)]; exact wr.1) (fun k a b => ?_)
  · rw [zbyte_51]
    unfold fu_
    split
    · exact bm_by v
    · exact B.2.1 k a b
  · rw [zbyte_51]
    unfold fu_
    split
    · rename_i e
      rw [e]
      exact f2
    · rename_i e
      rw [f _ _ (fun q => e q.2) (by omega)]
      exact tp.2 k a b
  · rw [ne _ (by omega) (by omega)] at b
    rw [ne _ (by omega) (by omega), f _ _ (by omega) (by omega)]
    exact wr.2 k a b
/-- which number the i-th of 20 bytes is of -/
def xk_ (a b c e g i : Int) : Int := if i < 4 then a else if i < 8 then b else if i < 12 then c else if i < 16 then e else g
def zst_ (a b c e g : Int) : Nat → Int → PH → PH
  | 0, _, y => y
  | m + 1, i, y => zst_ a b c e g m (i + 1) (zbyte y (xk_ a b c e g i / 2 ^ (24 - 8 * i.tmod 4).toNat))
theorem zst_20 {a b c e g : Int} {z : PH} : zst_ a b c e g 20 0 z = zfeed z a b c e g := rfl
/-- the k-th of what is written -/
def zoct (z : PH) (k : Int) : Int := if 0 ≤ k ∧ k < z 54 0 then z 55 k else -1
section X9N
variable {d bc bs : Nat} {Q : PQ} {h h0 z : PH}
set_option maxRecDepth 100000 in
set_option maxHeartbeats 4000000 in
theorem lp_X9_feed {a b c e g n9 : Int} {Z : PH} (ha : inI a) (hb : inI b) (hc : inI c) (he : inI e) (hg : inI g) (k : Z 50 0 = n9 → MK_ Q h0 Z 0 n9) : ∀ (m : Nat) (i : Int) (y h : PH), (0 ≤ i) → (i + m = 20) → (y 50 0 + m = n9) → (n9 ≤ 400) → (MR_ h y) → (FM h0 h) → (h 196 0 = 0) → (zst_ a b c e g m i y = Z) → S_ MX9_feed d bc bs Q 23 [(2, 196), (0, a), (0, b), (0, c), (0, e), (0, g), (0, i), (9, 0)] [] nN h := by
  intro m
  induction m with
  | zero =>
    intro i y h i0 im yn n4 M fm th hz
    have hG := M.1
    have e14 := M.2.2.2.2.2.2.2.2.1.1
    have b50 := (mr_b M).1
    have tm : 0 ≤ i.tmod 4 ∧ i.tmod 4 < 4 := by rw [Int.tmod_eq_emod_of_nonneg i0]; omega
    refine s_iload dX9_feed_23 rfl ?_
    refine s_bipush dX9_feed_25 (by decide) ?_
    refine s_icmp_ge (tgt := 117) dX9_feed_27 (by decide) (by first | exact hG.2 _ _ | exact b01_in _ | assumption | exact ⟨by omega, by omega⟩) (by first | exact hG.2 _ _ | exact b01_in _ | assumption | exact ⟨by omega, by omega⟩) (fun c1 => ?_) (fun c1 => ?_)
    · refine s_aload_n dX9_feed_117 rfl ?_
      refine s_geti dX9_feed_118 fl_X9_101 kl_7 (by decide) rfl io_196 (z := 14) rfl ?_
      rw [e14]
      refine s_ireturn dX9_feed_121 rfl (q_val (by omega) (k (by rw [← hz]; show y 50 0 = n9; omega) h (by rw [← hz]; exact M) fm th))
    · exact absurd c1 (by omega)
  | succ m ih =>
    intro i y h i0 im yn n4 M fm th hz
    have hG := M.1
    have e14 := M.2.2.2.2.2.2.2.2.1.1
    have b50 := (mr_b M).1
    have tm : 0 ≤ i.tmod 4 ∧ i.tmod 4 < 4 := by rw [Int.tmod_eq_emod_of_nonneg i0]; omega
    refine s_iload dX9_feed_23 rfl ?_
    refine s_bipush dX9_feed_25 (by decide) ?_
    refine s_icmp_ge (tgt := 117) dX9_feed_27 (by decide) (by first | exact hG.2 _ _ | exact b01_in _ | assumption | exact ⟨by omega, by omega⟩) (by first | exact hG.2 _ _ | exact b01_in _ | assumption | exact ⟨by omega, by omega⟩) (fun c1 => ?_) (fun c1 => ?_)
    · exact absurd c1 (by omega)
    · refine s_iload dX9_feed_30 rfl ?_
      refine s_iconst dX9_feed_32 ?_
      refine s_icmp_ge (tgt := 40) dX9_feed_33 (by decide) (by first | exact hG.2 _ _ | exact b01_in _ | assumption | exact ⟨by omega, by omega⟩) (by first | exact hG.2 _ _ | exact b01_in _ | assumption | exact ⟨by omega, by omega⟩) (fun c2 => ?_) (fun c2 => ?_)
      · refine s_iload dX9_feed_40 rfl ?_
        refine s_bipush dX9_feed_42 (by decide) ?_
        refine s_icmp_ge (tgt := 51) dX9_feed_44 (by decide) (by first | exact hG.2 _ _ | exact b01_in _ | assumption | exact ⟨by omega, by omega⟩) (by first | exact hG.2 _ _ | exact b01_in _ | assumption | exact ⟨by omega, by omega⟩) (fun c3 => ?_) (fun c3 => ?_)
        · refine s_iload dX9_feed_51 rfl ?_
          refine s_bipush dX9_feed_53 (by decide) ?_
          refine s_icmp_ge (tgt := 62) dX9_feed_55 (by decide) (by first | exact hG.2 _ _ | exact b01_in _ | assumption | exact ⟨by omega, by omega⟩) (by first | exact hG.2 _ _ | exact b01_in _ | assumption | exact ⟨by omega, by omega⟩) (fun c4 => ?_) (fun c4 => ?_)
          · refine s_iload dX9_feed_62 rfl ?_
            refine s_bipush dX9_feed_64 (by decide) ?_
            refine s_icmp_ge (tgt := 74) dX9_feed_66 (by decide) (by first | exact hG.2 _ _ | exact b01_in _ | assumption | exact ⟨by omega, by omega⟩) (by first | exact hG.2 _ _ | exact b01_in _ | assumption | exact ⟨by omega, by omega⟩) (fun c5 => ?_) (fun c5 => ?_)
            · refine s_iload dX9_feed_74 rfl ?_
              refine s_istore dX9_feed_76 (by decide) rfl (L' := [_, _, _, _, _, _, _, _]) rfl ?_
              refine s_aload_n dX9_feed_78 rfl ?_
              refine s_getr dX9_feed_79 fl_X9_35 kl_7 (by decide) rfl io_196 (z := 13) rfl (rf_7_13 hG.1 io_196) (rk_7_13 io_196).1 ?_
              refine s_aload_n dX9_feed_82 rfl ?_
              refine s_geti dX9_feed_83 fl_X9_101 kl_7 (by decide) rfl io_196 (z := 14) rfl ?_
              rw [e14]
              refine s_iload dX9_feed_86 rfl ?_
              refine s_bipush dX9_feed_88 (by decide) ?_
              refine s_bipush dX9_feed_90 (by decide) ?_
              refine s_iload dX9_feed_92 rfl ?_
              refine s_iconst dX9_feed_94 ?_
              refine s_irem dX9_feed_95 (by first | exact hG.2 _ _ | exact b01_in _ | assumption | exact ⟨by omega, by omega⟩) (by first | exact hG.2 _ _ | exact b01_in _ | assumption | exact ⟨by omega, by omega⟩) (by omega) (by omega) ?_
              refine s_imul dX9_feed_96 ?_
              refine s_isub dX9_feed_97 ?_
              refine s_ishr dX9_feed_98 (by first | exact hG.2 _ _ | exact b01_in _ | assumption | exact ⟨by omega, by omega⟩) (by omega) (by omega) ?_
              refine s_i2b dX9_feed_99 ?_
              have bm := bm_by (g / 2 ^ (24 - 8 * i.tmod 4).toNat)
              refine s_bastore1G dX9_feed_100 (rk_7_13 io_196) (by omega) (by omega) hG (by omega) (by omega) (fun hG1 => ?_)
              refine s_aload_n dX9_feed_101 rfl ?_
              refine s_dup dX9_feed_102 rfl ?_
              refine s_geti dX9_feed_103 fl_X9_101 kl_7 (by decide) rfl io_196 (z := 14) rfl ?_
              rw [hs_ne _ (by omega), e14]
              refine s_iconst dX9_feed_106 ?_
              refine s_iadd dX9_feed_107 ?_
              refine s_putiG 14 dX9_feed_108 fl_X9_101 kl_7 (by decide) rfl rfl io_196 (z := 14) rfl (by decide +kernel) hG1 (by first | exact hG1.2 _ _ | exact hG.2 _ _ | exact b01_in _ | assumption | exact ⟨by omega, by omega⟩) (fun hG2 => ?_)
              refine s_iinc dX9_feed_111 rfl (by decide) rfl (L' := [_, _, _, _, _, _, _, _]) rfl ?_
              refine s_goto (tgt := 23) dX9_feed_114 (by decide) ?_
              refine s_fg (L' := [(2, 196), (0, a), (0, b), (0, c), (0, e), (0, g), (0, i + 1), (9, 0)]) ⟨Or.inr rfl, Or.inr rfl, Or.inr rfl, Or.inr rfl, Or.inr rfl, Or.inr rfl, Or.inr rfl, Or.inl rfl, trivial⟩ ?_
              have ex : g = xk_ a b c e g i := by unfold xk_; first | exact (if_pos (by omega)).symm | (rw [if_neg (by omega)]; first | exact (if_pos (by omega)).symm | (rw [if_neg (by omega)]; first | exact (if_pos (by omega)).symm | (rw [if_neg (by omega)]; first | exact (if_pos (by omega)).symm | exact (if_neg (by omega)).symm)))
              refine ih (i + 1) (zbyte y (xk_ a b c e g i / 2 ^ (24 - 8 * i.tmod 4).toNat)) _ (by omega) (by omega) (by rw [zbyte_50]; omega) n4 (mr_byte M hG2 (by omega) (fun x k p q => by rw [hs_ne _ (by omega), hs_ne _ (by omega)]) (by rw [hs_eq]) (by rw [hs_ne _ (by omega), hs_eq, ← ex])) (fun x y hx => by rw [hs_ne _ (by omega), hs_ne _ (by omega)]; exact fm x y hx) (by rw [hs_ne _ (by omega), hs_ne _ (by omega)]; exact th) hz
            · refine s_iload dX9_feed_69 rfl ?_
              refine s_goto (tgt := 76) dX9_feed_71 (by decide) ?_
              refine s_istore dX9_feed_76 (by decide) rfl (L' := [_, _, _, _, _, _, _, _]) rfl ?_
              refine s_aload_n dX9_feed_78 rfl ?_
              refine s_getr dX9_feed_79 fl_X9_35 kl_7 (by decide) rfl io_196 (z := 13) rfl (rf_7_13 hG.1 io_196) (rk_7_13 io_196).1 ?_
              refine s_aload_n dX9_feed_82 rfl ?_
              refine s_geti dX9_feed_83 fl_X9_101 kl_7 (by decide) rfl io_196 (z := 14) rfl ?_
              rw [e14]
              refine s_iload dX9_feed_86 rfl ?_
              refine s_bipush dX9_feed_88 (by decide) ?_
              refine s_bipush dX9_feed_90 (by decide) ?_
              refine s_iload dX9_feed_92 rfl ?_
              refine s_iconst dX9_feed_94 ?_
              refine s_irem dX9_feed_95 (by first | exact hG.2 _ _ | exact b01_in _ | assumption | exact ⟨by omega, by omega⟩) (by first | exact hG.2 _ _ | exact b01_in _ | assumption | exact ⟨by omega, by omega⟩) (by omega) (by omega) ?_
              refine s_imul dX9_feed_96 ?_
              refine s_isub dX9_feed_97 ?_
              refine s_ishr dX9_feed_98 (by first | exact hG.2 _ _ | exact b01_in _ | assumption | exact ⟨by omega, by omega⟩) (by omega) (by omega) ?_
              refine s_i2b dX9_feed_99 ?_
              have bm := bm_by (e / 2 ^ (24 - 8 * i.tmod 4).toNat)
              refine s_bastore1G dX9_feed_100 (rk_7_13 io_196) (by omega) (by omega) hG (by omega) (by omega) (fun hG3 => ?_)
              refine s_aload_n dX9_feed_101 rfl ?_
              refine s_dup dX9_feed_102 rfl ?_
              refine s_geti dX9_feed_103 fl_X9_101 kl_7 (by decide) rfl io_196 (z := 14) rfl ?_
              rw [hs_ne _ (by omega), e14]
              refine s_iconst dX9_feed_106 ?_
              refine s_iadd dX9_feed_107 ?_
              refine s_putiG 14 dX9_feed_108 fl_X9_101 kl_7 (by decide) rfl rfl io_196 (z := 14) rfl (by decide +kernel) hG3 (by first | exact hG3.2 _ _ | exact hG.2 _ _ | exact b01_in _ | assumption | exact ⟨by omega, by omega⟩) (fun hG4 => ?_)
              refine s_iinc dX9_feed_111 rfl (by decide) rfl (L' := [_, _, _, _, _, _, _, _]) rfl ?_
              refine s_goto (tgt := 23) dX9_feed_114 (by decide) ?_
              refine s_fg (L' := [(2, 196), (0, a), (0, b), (0, c), (0, e), (0, g), (0, i + 1), (9, 0)]) ⟨Or.inr rfl, Or.inr rfl, Or.inr rfl, Or.inr rfl, Or.inr rfl, Or.inr rfl, Or.inr rfl, Or.inl rfl, trivial⟩ ?_
              have ex : e = xk_ a b c e g i := by unfold xk_; first | exact (if_pos (by omega)).symm | (rw [if_neg (by omega)]; first | exact (if_pos (by omega)).symm | (rw [if_neg (by omega)]; first | exact (if_pos (by omega)).symm | (rw [if_neg (by omega)]; first | exact (if_pos (by omega)).symm | exact (if_neg (by omega)).symm)))
              refine ih (i + 1) (zbyte y (xk_ a b c e g i / 2 ^ (24 - 8 * i.tmod 4).toNat)) _ (by omega) (by omega) (by rw [zbyte_50]; omega) n4 (mr_byte M hG4 (by omega) (fun x k p q => by rw [hs_ne _ (by omega), hs_ne _ (by omega)]) (by rw [hs_eq]) (by rw [hs_ne _ (by omega), hs_eq, ← ex])) (fun x y hx => by rw [hs_ne _ (by omega), hs_ne _ (by omega)]; exact fm x y hx) (by rw [hs_ne _ (by omega), hs_ne _ (by omega)]; exact th) hz
          · refine s_iload_n dX9_feed_58 rfl ?_
            refine s_goto (tgt := 76) dX9_feed_59 (by decide) ?_
            refine s_istore dX9_feed_76 (by decide) rfl (L' := [_, _, _, _, _, _, _, _]) rfl ?_
            refine s_aload_n dX9_feed_78 rfl ?_
            refine s_getr dX9_feed_79 fl_X9_35 kl_7 (by decide) rfl io_196 (z := 13) rfl (rf_7_13 hG.1 io_196) (rk_7_13 io_196).1 ?_
            refine s_aload_n dX9_feed_82 rfl ?_
            refine s_geti dX9_feed_83 fl_X9_101 kl_7 (by decide) rfl io_196 (z := 14) rfl ?_
            rw [e14]
            refine s_iload dX9_feed_86 rfl ?_
            refine s_bipush dX9_feed_88 (by decide) ?_
            refine s_bipush dX9_feed_90 (by decide) ?_
            refine s_iload dX9_feed_92 rfl ?_
            refine s_iconst dX9_feed_94 ?_
            refine s_irem dX9_feed_95 (by first | exact hG.2 _ _ | exact b01_in _ | assumption | exact ⟨by omega, by omega⟩) (by first | exact hG.2 _ _ | exact b01_in _ | assumption | exact ⟨by omega, by omega⟩) (by omega) (by omega) ?_
            refine s_imul dX9_feed_96 ?_
            refine s_isub dX9_feed_97 ?_
            refine s_ishr dX9_feed_98 (by first | exact hG.2 _ _ | exact b01_in _ | assumption | exact ⟨by omega, by omega⟩) (by omega) (by omega) ?_
            refine s_i2b dX9_feed_99 ?_
            have bm := bm_by (c / 2 ^ (24 - 8 * i.tmod 4).toNat)
            refine s_bastore1G dX9_feed_100 (rk_7_13 io_196) (by omega) (by omega) hG (by omega) (by omega) (fun hG5 => ?_)
            refine s_aload_n dX9_feed_101 rfl ?_
            refine s_dup dX9_feed_102 rfl ?_
            refine s_geti dX9_feed_103 fl_X9_101 kl_7 (by decide) rfl io_196 (z := 14) rfl ?_
            rw [hs_ne _ (by omega), e14]
            refine s_iconst dX9_feed_106 ?_
            refine s_iadd dX9_feed_107 ?_
            refine s_putiG 14 dX9_feed_108 fl_X9_101 kl_7 (by decide) rfl rfl io_196 (z := 14) rfl (by decide +kernel) hG5 (by first | exact hG5.2 _ _ | exact hG.2 _ _ | exact b01_in _ | assumption | exact ⟨by omega, by omega⟩) (fun hG6 => ?_)
            refine s_iinc dX9_feed_111 rfl (by decide) rfl (L' := [_, _, _, _, _, _, _, _]) rfl ?_
            refine s_goto (tgt := 23) dX9_feed_114 (by decide) ?_
            refine s_fg (L' := [(2, 196), (0, a), (0, b), (0, c), (0, e), (0, g), (0, i + 1), (9, 0)]) ⟨Or.inr rfl, Or.inr rfl, Or.inr rfl, Or.inr rfl, Or.inr rfl, Or.inr rfl, Or.inr rfl, Or.inl rfl, trivial⟩ ?_
            have ex : c = xk_ a b c e g i := by unfold xk_; first | exact (if_pos (by omega)).symm | (rw [if_neg (by omega)]; first | exact (if_pos (by omega)).symm | (rw [if_neg (by omega)]; first | exact (if_pos (by omega)).symm | (rw [if_neg (by omega)]; first | exact (if_pos (by omega)).symm | exact (if_neg (by omega)).symm)))
            refine ih (i + 1) (zbyte y (xk_ a b c e g i / 2 ^ (24 - 8 * i.tmod 4).toNat)) _ (by omega) (by omega) (by rw [zbyte_50]; omega) n4 (mr_byte M hG6 (by omega) (fun x k p q => by rw [hs_ne _ (by omega), hs_ne _ (by omega)]) (by rw [hs_eq]) (by rw [hs_ne _ (by omega), hs_eq, ← ex])) (fun x y hx => by rw [hs_ne _ (by omega), hs_ne _ (by omega)]; exact fm x y hx) (by rw [hs_ne _ (by omega), hs_ne _ (by omega)]; exact th) hz
        · refine s_iload_n dX9_feed_47 rfl ?_
          refine s_goto (tgt := 76) dX9_feed_48 (by decide) ?_
          refine s_istore dX9_feed_76 (by decide) rfl (L' := [_, _, _, _, _, _, _, _]) rfl ?_
          refine s_aload_n dX9_feed_78 rfl ?_
          refine s_getr dX9_feed_79 fl_X9_35 kl_7 (by decide) rfl io_196 (z := 13) rfl (rf_7_13 hG.1 io_196) (rk_7_13 io_196).1 ?_
          refine s_aload_n dX9_feed_82 rfl ?_
          refine s_geti dX9_feed_83 fl_X9_101 kl_7 (by decide) rfl io_196 (z := 14) rfl ?_
          rw [e14]
          refine s_iload dX9_feed_86 rfl ?_
          refine s_bipush dX9_feed_88 (by decide) ?_
          refine s_bipush dX9_feed_90 (by decide) ?_
          refine s_iload dX9_feed_92 rfl ?_
          refine s_iconst dX9_feed_94 ?_
          refine s_irem dX9_feed_95 (by first | exact hG.2 _ _ | exact b01_in _ | assumption | exact ⟨by omega, by omega⟩) (by first | exact hG.2 _ _ | exact b01_in _ | assumption | exact ⟨by omega, by omega⟩) (by omega) (by omega) ?_
          refine s_imul dX9_feed_96 ?_
          refine s_isub dX9_feed_97 ?_
          refine s_ishr dX9_feed_98 (by first | exact hG.2 _ _ | exact b01_in _ | assumption | exact ⟨by omega, by omega⟩) (by omega) (by omega) ?_
          refine s_i2b dX9_feed_99 ?_
          have bm := bm_by (b / 2 ^ (24 - 8 * i.tmod 4).toNat)
          refine s_bastore1G dX9_feed_100 (rk_7_13 io_196) (by omega) (by omega) hG (by omega) (by omega) (fun hG7 => ?_)
          refine s_aload_n dX9_feed_101 rfl ?_
          refine s_dup dX9_feed_102 rfl ?_
          refine s_geti dX9_feed_103 fl_X9_101 kl_7 (by decide) rfl io_196 (z := 14) rfl ?_
          rw [hs_ne _ (by omega), e14]
          refine s_iconst dX9_feed_106 ?_
          refine s_iadd dX9_feed_107 ?_
          refine s_putiG 14 dX9_feed_108 fl_X9_101 kl_7 (by decide) rfl rfl io_196 (z := 14) rfl (by decide +kernel) hG7 (by first | exact hG7.2 _ _ | exact hG.2 _ _ | exact b01_in _ | assumption | exact ⟨by omega, by omega⟩) (fun hG8 => ?_)
          refine s_iinc dX9_feed_111 rfl (by decide) rfl (L' := [_, _, _, _, _, _, _, _]) rfl ?_
          refine s_goto (tgt := 23) dX9_feed_114 (by decide) ?_
          refine s_fg (L' := [(2, 196), (0, a), (0, b), (0, c), (0, e), (0, g), (0, i + 1), (9, 0)]) ⟨Or.inr rfl, Or.inr rfl, Or.inr rfl, Or.inr rfl, Or.inr rfl, Or.inr rfl, Or.inr rfl, Or.inl rfl, trivial⟩ ?_
          have ex : b = xk_ a b c e g i := by unfold xk_; first | exact (if_pos (by omega)).symm | (rw [if_neg (by omega)]; first | exact (if_pos (by omega)).symm | (rw [if_neg (by omega)]; first | exact (if_pos (by omega)).symm | (rw [if_neg (by omega)]; first | exact (if_pos (by omega)).symm | exact (if_neg (by omega)).symm)))
          refine ih (i + 1) (zbyte y (xk_ a b c e g i / 2 ^ (24 - 8 * i.tmod 4).toNat)) _ (by omega) (by omega) (by rw [zbyte_50]; omega) n4 (mr_byte M hG8 (by omega) (fun x k p q => by rw [hs_ne _ (by omega), hs_ne _ (by omega)]) (by rw [hs_eq]) (by rw [hs_ne _ (by omega), hs_eq, ← ex])) (fun x y hx => by rw [hs_ne _ (by omega), hs_ne _ (by omega)]; exact fm x y hx) (by rw [hs_ne _ (by omega), hs_ne _ (by omega)]; exact th) hz
      · refine s_iload_n dX9_feed_36 rfl ?_
        refine s_goto (tgt := 76) dX9_feed_37 (by decide) ?_
        refine s_istore dX9_feed_76 (by decide) rfl (L' := [_, _, _, _, _, _, _, _]) rfl ?_
        refine s_aload_n dX9_feed_78 rfl ?_
        refine s_getr dX9_feed_79 fl_X9_35 kl_7 (by decide) rfl io_196 (z := 13) rfl (rf_7_13 hG.1 io_196) (rk_7_13 io_196).1 ?_
        refine s_aload_n dX9_feed_82 rfl ?_
        refine s_geti dX9_feed_83 fl_X9_101 kl_7 (by decide) rfl io_196 (z := 14) rfl ?_
        rw [e14]
        refine s_iload dX9_feed_86 rfl ?_
        refine s_bipush dX9_feed_88 (by decide) ?_
        refine s_bipush dX9_feed_90 (by decide) ?_
        refine s_iload dX9_feed_92 rfl ?_
        refine s_iconst dX9_feed_94 ?_
        refine s_irem dX9_feed_95 (by first | exact hG.2 _ _ | exact b01_in _ | assumption | exact ⟨by omega, by omega⟩) (by first | exact hG.2 _ _ | exact b01_in _ | assumption | exact ⟨by omega, by omega⟩) (by omega) (by omega) ?_
        refine s_imul dX9_feed_96 ?_
        refine s_isub dX9_feed_97 ?_
        refine s_ishr dX9_feed_98 (by first | exact hG.2 _ _ | exact b01_in _ | assumption | exact ⟨by omega, by omega⟩) (by omega) (by omega) ?_
        refine s_i2b dX9_feed_99 ?_
        have bm := bm_by (a / 2 ^ (24 - 8 * i.tmod 4).toNat)
        refine s_bastore1G dX9_feed_100 (rk_7_13 io_196) (by omega) (by omega) hG (by omega) (by omega) (fun hG9 => ?_)
        refine s_aload_n dX9_feed_101 rfl ?_
        refine s_dup dX9_feed_102 rfl ?_
        refine s_geti dX9_feed_103 fl_X9_101 kl_7 (by decide) rfl io_196 (z := 14) rfl ?_
        rw [hs_ne _ (by omega), e14]
        refine s_iconst dX9_feed_106 ?_
        refine s_iadd dX9_feed_107 ?_
        refine s_putiG 14 dX9_feed_108 fl_X9_101 kl_7 (by decide) rfl rfl io_196 (z := 14) rfl (by decide +kernel) hG9 (by first | exact hG9.2 _ _ | exact hG.2 _ _ | exact b01_in _ | assumption | exact ⟨by omega, by omega⟩) (fun hG10 => ?_)
        refine s_iinc dX9_feed_111 rfl (by decide) rfl (L' := [_, _, _, _, _, _, _, _]) rfl ?_
        refine s_goto (tgt := 23) dX9_feed_114 (by decide) ?_
        refine s_fg (L' := [(2, 196), (0, a), (0, b), (0, c), (0, e), (0, g), (0, i + 1), (9, 0)]) ⟨Or.inr rfl, Or.inr rfl, Or.inr rfl, Or.inr rfl, Or.inr rfl, Or.inr rfl, Or.inr rfl, Or.inl rfl, trivial⟩ ?_
        have ex : a = xk_ a b c e g i := by unfold xk_; first | exact (if_pos (by omega)).symm | (rw [if_neg (by omega)]; first | exact (if_pos (by omega)).symm | (rw [if_neg (by omega)]; first | exact (if_pos (by omega)).symm | (rw [if_neg (by omega)]; first | exact (if_pos (by omega)).symm | exact (if_neg (by omega)).symm)))
        refine ih (i + 1) (zbyte y (xk_ a b c e g i / 2 ^ (24 - 8 * i.tmod 4).toNat)) _ (by omega) (by omega) (by rw [zbyte_50]; omega) n4 (mr_byte M hG10 (by omega) (fun x k p q => by rw [hs_ne _ (by omega), hs_ne _ (by omega)]) (by rw [hs_eq]) (by rw [hs_ne _ (by omega), hs_eq, ← ex])) (fun x y hx => by rw [hs_ne _ (by omega), hs_ne _ (by omega)]; exact fm x y hx) (by rw [hs_ne _ (by omega), hs_ne _ (by omega)]; exact th) hz
set_option maxRecDepth 100000 in
set_option maxHeartbeats 4000000 in
theorem c_X9_feed {a b c e g : Int} (M : MR_ h z) (ha : inI a) (hb : inI b) (hc : inI c) (he : inI e) (hg : inI g) (k : z 50 0 ≤ 380 → MK_ Q h (zfeed z a b c e g) 0 (z 50 0 + 20)) (k1 : 380 < z 50 0 → MK_ Q h z 0 (-1)) : Cl_ yX9_feed MX9_feed d bc bs [(2, 196), (0, a), (0, b), (0, c), (0, e), (0, g)] nN h Q := by
  refine s_enter pn_X9 rfl (Nat.le_of_ble_eq_true rfl) (L := [(2, _), (0, _), (0, _), (0, _), (0, _), (0, _), (9, 0), (9, 0)]) rfl ?_
  have hG := M.1
  have b50 := (mr_b M).1
  refine s_aload_n dX9_feed_0 rfl ?_
  refine s_iconst dX9_feed_1 ?_
  refine s_putiG 0 dX9_feed_2 fl_X9_98 kl_7 (by decide) rfl rfl io_196 (z := 0) rfl (by decide +kernel) hG (by first | exact hG.2 _ _ | exact b01_in _ | assumption | exact ⟨by omega, by omega⟩) (fun hG1 => ?_)
  obtain ⟨M, fm, th⟩ := mr_th M hG1
  have e14 := M.2.2.2.2.2.2.2.2.1.1
  refine s_aload_n dX9_feed_5 rfl ?_
  refine s_geti dX9_feed_6 fl_X9_101 kl_7 (by decide) rfl io_196 (z := 14) rfl ?_
  rw [e14]
  refine s_bipush dX9_feed_9 (by decide) ?_
  refine s_iadd dX9_feed_11 ?_
  refine s_sipush dX9_feed_12 (by decide) ?_
  refine s_icmp_le (tgt := 20) dX9_feed_15 (by decide) (by first | exact hG1.2 _ _ | exact hG.2 _ _ | exact b01_in _ | assumption | exact ⟨by omega, by omega⟩) (by first | exact hG1.2 _ _ | exact hG.2 _ _ | exact b01_in _ | assumption | exact ⟨by omega, by omega⟩) (fun c1 => ?_) (fun c1 => ?_)
  · refine s_iconst dX9_feed_20 ?_
    refine s_istore dX9_feed_21 (by decide) rfl (L' := [_, _, _, _, _, _, _, _]) rfl ?_
    exact lp_X9_feed (h0 := h) (n9 := z 50 0 + 20) ha hb hc he hg (fun _ => k (by omega)) 20 0 z _ (Int.le_refl _) (by omega) (by omega) (by omega) M fm th zst_20
  · refine s_iconst dX9_feed_18 ?_
    exact s_ireturn dX9_feed_19 rfl (k1 (by omega) _ M fm th)
set_option maxRecDepth 100000 in
set_option maxHeartbeats 4000000 in
theorem c_X9_end {n : Int} (M : MR_ h z) (hn : inI n) (k : 0 ≤ n → n ≤ z 50 0 → MK_ Q h (zend z n) 0 1) (k1 : ¬ (0 ≤ n ∧ n ≤ z 50 0) → MK_ Q h z 0 0) : Cl_ yX9_end MX9_end d bc bs [(2, 196), (0, n)] nN h Q := by
  refine s_enter pn_X9 rfl (Nat.le_of_ble_eq_true rfl) (L := [(2, _), (0, _)]) rfl ?_
  have hG := M.1
  have b50 := (mr_b M).1
  refine s_aload_n dX9_end_0 rfl ?_
  refine s_iconst dX9_end_1 ?_
  refine s_putiG 0 dX9_end_2 fl_X9_98 kl_7 (by decide) rfl rfl io_196 (z := 0) rfl (by decide +kernel) hG (by first | exact hG.2 _ _ | exact b01_in _ | assumption | exact ⟨by omega, by omega⟩) (fun hG1 => ?_)
  obtain ⟨M, fm, th⟩ := mr_th M hG1
  have e14 := M.2.2.2.2.2.2.2.2.1.1
  refine s_iload_n dX9_end_5 rfl ?_
  refine s_if_lt (tgt := 17) dX9_end_6 (by decide) (by first | exact hG1.2 _ _ | exact hG.2 _ _ | exact b01_in _ | assumption | exact ⟨by omega, by omega⟩) (fun c1 => ?_) (fun c1 => ?_)
  · refine s_iconst dX9_end_17 ?_
    exact s_zreturn dX9_end_18 rfl (Or.inl rfl) (k1 (by omega) _ M fm th)
  · refine s_iload_n dX9_end_9 rfl ?_
    refine s_aload_n dX9_end_10 rfl ?_
    refine s_geti dX9_end_11 fl_X9_101 kl_7 (by decide) rfl io_196 (z := 14) rfl ?_
    rw [e14]
    refine s_icmp_le (tgt := 19) dX9_end_14 (by decide) (by first | exact hG1.2 _ _ | exact hG.2 _ _ | exact b01_in _ | assumption | exact ⟨by omega, by omega⟩) (by first | exact hG1.2 _ _ | exact hG.2 _ _ | exact b01_in _ | assumption | exact ⟨by omega, by omega⟩) (fun c2 => ?_) (fun c2 => ?_)
    · refine s_aload_n dX9_end_19 rfl ?_
      refine s_iload_n dX9_end_20 rfl ?_
      refine s_putiG 14 dX9_end_21 fl_X9_101 kl_7 (by decide) rfl rfl io_196 (z := 14) rfl (by decide +kernel) hG1 (by first | exact hG1.2 _ _ | exact hG.2 _ _ | exact b01_in _ | assumption | exact ⟨by omega, by omega⟩) (fun hG2 => ?_)
      refine s_iconst dX9_end_24 ?_
      have B := mr_b M
      have ne : ∀ x : Int, ¬ x = 50 → zend z n x = z x := fun x a => if_neg a
      have e50 : zend z n 50 0 = n := rfl
      have wr := M.2.2.2.2.2.2.2.2.2.2.1
      have tp := M.2.2.2.2.2.2.2.2.1
      refine s_zreturn dX9_end_25 rfl (Or.inr rfl) (k (by omega) (by omega) _ (mr_oth M hG2 (fun x a _ _ _ => ne x a) (by rw [e50]; omega) (by rw [ne _ (by omega)]; exact B.2.1) (by rw [ne _ (by omega)]; exact B.2.2.2.2.2.2.2.1) (by rw [ne _ (by omega), ne _ (by omega)]; exact B.2.2.2.2.2.2.2.2) (fun x k _ _ _ q => hs_ne _ (by omega)) (by rw [hs_eq, e50]) (fun k a b => by rw [hs_ne _ (by omega), ne _ (by omega)]; exact tp.2 k a b) (by rw [hs_ne _ (by omega), ne _ (by omega)]; exact wr.1) (fun k a b => by rw [ne _ (by omega)] at b; rw [hs_ne _ (by omega), ne _ (by omega)]; exact wr.2 k a b)) (fun x y hx => by rw [hs_ne _ (by omega)]; exact fm x y hx) (by rw [hs_ne _ (by omega)]; exact th))
    · refine s_iconst dX9_end_17 ?_
      exact s_zreturn dX9_end_18 rfl (Or.inl rfl) (k1 (by omega) _ M fm th)
set_option maxRecDepth 100000 in
set_option maxHeartbeats 4000000 in
theorem c_X9_octet {v : Int} (hd : 1 ≤ d) (M : MR_ h z) (hv : inI v) (k : MK_ Q h z 0 (zoct z v)) : Cl_ yX9_octet MX9_octet d bc bs [(2, 196), (0, v)] nN h Q := by
  refine s_enter pn_X9 rfl (Nat.le_of_ble_eq_true rfl) (L := [(2, _), (0, _)]) rfl ?_
  have hG := M.1
  have b54 := (mr_b M).2.2.2.2.2.2.2.1
  refine s_aload_n dX9_octet_0 rfl ?_
  refine s_iconst dX9_octet_1 ?_
  refine s_putiG 0 dX9_octet_2 fl_X9_98 kl_7 (by decide) rfl rfl io_196 (z := 0) rfl (by decide +kernel) hG (by first | exact hG.2 _ _ | exact b01_in _ | assumption | exact ⟨by omega, by omega⟩) (fun hG1 => ?_)
  obtain ⟨M, fm, th⟩ := mr_th M hG1
  have wr := M.2.2.2.2.2.2.2.2.2.2.1
  refine s_iload_n dX9_octet_5 rfl ?_
  refine s_i2l dX9_octet_6 (by first | exact hG1.2 _ _ | exact hG.2 _ _ | exact b01_in _ | assumption | exact ⟨by omega, by omega⟩) ?_
  refine s_lconstz (z := 0) dX9_octet_7 rfl ?_
  refine s_aload_n dX9_octet_8 rfl ?_
  refine s_geti dX9_octet_9 fl_X9_448 kl_7 (by decide) rfl io_196 (z := 44) rfl ?_
  rw [wr.1]
  refine s_iconst dX9_octet_12 ?_
  refine s_isub dX9_octet_13 ?_
  refine s_i2l dX9_octet_14 (by first | exact hG1.2 _ _ | exact hG.2 _ _ | exact b01_in _ | assumption | exact ⟨by omega, by omega⟩) ?_
  refine s_callS (d' := d - 1) (bc' := 0) (bs' := 0) (as := [_, _, _]) dX9_octet_15 sf_X9_143 (dd_ (by omega) (by decide)) ⟨Nat.zero_le _, Nat.zero_le _⟩ rfl rfl (Nat.le_of_ble_eq_true rfl) ?_
  refine c_X9_isIn (inI_L (by assumption)) ⟨by omega, by omega⟩ ⟨by omega, by omega⟩ ?_
  refine s_if_eq (tgt := 30) dX9_octet_18 (by decide) (by first | exact hG1.2 _ _ | exact hG.2 _ _ | exact b01_in _ | assumption | exact ⟨by omega, by omega⟩) (fun c1 => ?_) (fun c1 => ?_)
  · have c1 := b01_0.mp c1
    refine s_iconst dX9_octet_30 ?_
    exact s_ireturn dX9_octet_31 rfl (q_val (by unfold zoct; rw [if_neg (by omega)]) (k _ M fm th))
  · have c1 := b01_n.mp c1
    refine s_aload_n dX9_octet_21 rfl ?_
    refine s_getr dX9_octet_22 fl_X9_95 kl_7 (by decide) rfl io_196 (z := 43) rfl (rf_7_43 hG1.1 io_196) (rk_7_43 io_196).1 ?_
    refine s_iload_n dX9_octet_25 rfl ?_
    refine s_iaload dX9_octet_26 (rk_7_43 io_196) (by omega) (by omega) ?_
    rw [wr.2 v (by omega) (by omega)]
    refine s_goto (tgt := 31) dX9_octet_27 (by decide) ?_
    exact s_ireturn dX9_octet_31 rfl (q_val (by unfold zoct; rw [if_pos ⟨by omega, by omega⟩]) (k _ M fm th))
set_option maxRecDepth 100000 in
set_option maxHeartbeats 4000000 in
theorem lp_X9_manyHeld  (hd : 1 ≤ d) (M : MR_ h z) (k : Q.1 (some (0, zheld z)) nN h) : ∀ (m : Nat) (t w : Int), (0 ≤ t) → (t + m = z 0 0) → (w = sumI (fun t => if z 1 (8 + t) = 0 then (1 : Int) else 0) 0 t.toNat) → S_ MX9_manyHeld d bc bs Q 4 [(2, 196), (0, w), (0, t)] [] nN h := by
  intro m
  induction m with
  | zero =>
    intro t w t0 tm hw
    have hG := M.1
    have I := mr_i M
    have hT := I.2.1
    have hP := I.2.2.1
    have hN := I.2.2.2.1
    have nn := M.2.1
    have b8 : t < z 0 0 → 0 ≤ z 1 (8 + t) ∧ z 1 (8 + t) ≤ 2 := fun c => (I.1.1 t t0 (by omega)).2.1
    refine s_iload_n dX9_manyHeld_4 rfl ?_
    refine s_aload_n dX9_manyHeld_5 rfl ?_
    refine s_geti dX9_manyHeld_6 fl_X9_278 kl_7 (by decide) rfl io_196 (z := 5) rfl ?_
    refine s_icmp_ge (tgt := 35) dX9_manyHeld_9 (by decide) (by first | exact hG.2 _ _ | exact b01_in _ | assumption | exact ⟨by omega, by omega⟩) (by first | exact hG.2 _ _ | exact b01_in _ | assumption | exact ⟨by omega, by omega⟩) (fun c1 => ?_) (fun c1 => ?_)
    · refine s_iload_n dX9_manyHeld_35 rfl ?_
      exact s_ireturn dX9_manyHeld_36 rfl (q_val (by rw [hw, show t = z 0 0 by omega]; rfl) k)
    · exact absurd c1 (by omega)
  | succ m ih =>
    intro t w t0 tm hw
    have hG := M.1
    have I := mr_i M
    have hT := I.2.1
    have hP := I.2.2.1
    have hN := I.2.2.2.1
    have nn := M.2.1
    have b8 : t < z 0 0 → 0 ≤ z 1 (8 + t) ∧ z 1 (8 + t) ≤ 2 := fun c => (I.1.1 t t0 (by omega)).2.1
    refine s_iload_n dX9_manyHeld_4 rfl ?_
    refine s_aload_n dX9_manyHeld_5 rfl ?_
    refine s_geti dX9_manyHeld_6 fl_X9_278 kl_7 (by decide) rfl io_196 (z := 5) rfl ?_
    refine s_icmp_ge (tgt := 35) dX9_manyHeld_9 (by decide) (by first | exact hG.2 _ _ | exact b01_in _ | assumption | exact ⟨by omega, by omega⟩) (by first | exact hG.2 _ _ | exact b01_in _ | assumption | exact ⟨by omega, by omega⟩) (fun c1 => ?_) (fun c1 => ?_)
    · exact absurd c1 (by omega)
    · refine s_iload_n dX9_manyHeld_12 rfl ?_
      refine s_aload_n dX9_manyHeld_13 rfl ?_
      refine s_iload_n dX9_manyHeld_14 rfl ?_
      refine s_iconst dX9_manyHeld_15 ?_
      refine s_callV (d' := d - 1) (bc' := 0) (bs' := 0) (as := [_, _]) dX9_manyHeld_16 vf_X9_300 (dd_ (by omega) (by decide)) ⟨Nat.zero_le _, Nat.zero_le _⟩ rfl rfl (Nat.le_of_ble_eq_true rfl) kl_7 rfl io_196 ?_
      have b8 := b8 (by omega)
      refine c_X9_ofThing M t0 (by omega) (by omega) (by omega) (j := 8 + t) (by omega) ?_
      refine s_if_ne (tgt := 26) dX9_manyHeld_19 (by decide) (by first | exact hG.2 _ _ | exact b01_in _ | assumption | exact ⟨by omega, by omega⟩) (fun c2 => ?_) (fun c2 => ?_)
      · refine s_iconst dX9_manyHeld_26 ?_
        refine s_iadd dX9_manyHeld_27 ?_
        refine s_istore_n dX9_manyHeld_28 (by decide) rfl (L' := [_, _, _]) rfl ?_
        refine s_iinc dX9_manyHeld_29 rfl (by decide) rfl (L' := [_, _, _]) rfl ?_
        refine s_goto (tgt := 4) dX9_manyHeld_32 (by decide) ?_
        exact ih (t + 1) _ (by omega) (by omega) (by rw [sumI_up _ t0, hw]; first | rw [if_pos (by omega)] | rw [if_neg (by omega)])
      · refine s_iconst dX9_manyHeld_22 ?_
        refine s_goto (tgt := 27) dX9_manyHeld_23 (by decide) ?_
        refine s_iadd dX9_manyHeld_27 ?_
        refine s_istore_n dX9_manyHeld_28 (by decide) rfl (L' := [_, _, _]) rfl ?_
        refine s_iinc dX9_manyHeld_29 rfl (by decide) rfl (L' := [_, _, _]) rfl ?_
        refine s_goto (tgt := 4) dX9_manyHeld_32 (by decide) ?_
        exact ih (t + 1) _ (by omega) (by omega) (by rw [sumI_up _ t0, hw]; first | rw [if_pos (by omega)] | rw [if_neg (by omega)])
set_option maxRecDepth 100000 in
set_option maxHeartbeats 4000000 in
theorem c_X9_manyHeld  (hd : 1 ≤ d) (M : MR_ h z) (k : Q.1 (some (0, zheld z)) nN h)  : Cl_ yX9_manyHeld MX9_manyHeld d bc bs [(2, 196)] nN h Q := by
  refine s_enter pn_X9 rfl (Nat.le_of_ble_eq_true rfl) (L := [(2, _), (9, 0), (9, 0)]) rfl ?_
  have hG := M.1
  have I := mr_i M
  have hT := I.2.1
  have hP := I.2.2.1
  have hN := I.2.2.2.1
  have nn := M.2.1
  refine s_iconst dX9_manyHeld_0 ?_
  refine s_istore_n dX9_manyHeld_1 (by decide) rfl (L' := [_, _, _]) rfl ?_
  refine s_iconst dX9_manyHeld_2 ?_
  refine s_istore_n dX9_manyHeld_3 (by decide) rfl (L' := [_, _, _]) rfl ?_
  exact lp_X9_manyHeld hd M k (z 0 0).toNat 0 0 (Int.le_refl _) (by omega) rfl
set_option maxRecDepth 100000 in
set_option maxHeartbeats 4000000 in
theorem lp_X9_manyGifts0  (hd : 4 ≤ d) (M0 : MR_ h0 z) (k : ∀ h : PH, G h → (∀ x y : Int, ¬ x = 196 + 16 → h x y = h0 x y) → Q.1 (some (0, zlapsed z)) nN h) : ∀ (m : Nat) (g w : Int) (h : PH), (0 ≤ g) → (g + m = z 0 2) → (G h) → (∀ x y : Int, ¬ x = 196 + 16 → h x y = h0 x y) → (w = sumI (fun g => if zlp z g = 0 then 0 else (1 : Int)) 0 g.toNat) → S_ MX9_manyGifts d bc bs Q 4 [(2, 196), (0, 0), (0, w), (0, g)] [] nN h := by
  intro m
  induction m with
  | zero =>
    intro g w h g0 gm gG fr hw
    have hG := gG
    have M := sc_M M0 gG (sc_16 fr)
    have I := mr_i M
    have hT := I.2.1
    have hP := I.2.2.1
    have hN := I.2.2.2.1
    have nn := M.2.1
    have b44 : g < z 0 2 → z 1 (44 + g) = 0 ∨ z 1 (44 + g) = 1 := fun c => (I.1.2.1 g g0 (by omega)).2
    have e44 : g < z 0 2 → h (196 + 1) (44 + g) = z 1 (44 + g) := fun c => by have e := mr_f M (44 + g) (by omega) (by omega); rw [pm_h (by omega)] at e; exact e
    refine s_iload_n dX9_manyGifts_4 rfl ?_
    refine s_aload_n dX9_manyGifts_5 rfl ?_
    refine s_geti dX9_manyGifts_6 fl_X9_275 kl_7 (by decide) rfl io_196 (z := 7) rfl ?_
    refine s_icmp_ge (tgt := 54) dX9_manyGifts_9 (by decide) (by first | exact hG.2 _ _ | exact b01_in _ | assumption | exact ⟨by omega, by omega⟩) (by first | exact hG.2 _ _ | exact b01_in _ | assumption | exact ⟨by omega, by omega⟩) (fun c1 => ?_) (fun c1 => ?_)
    · refine s_iload_n dX9_manyGifts_54 rfl ?_
      exact s_ireturn dX9_manyGifts_55 rfl (q_val (by rw [hw, show g = z 0 2 by omega]; rfl) (k h gG fr))
    · exact absurd c1 (by omega)
  | succ m ih =>
    intro g w h g0 gm gG fr hw
    have hG := gG
    have M := sc_M M0 gG (sc_16 fr)
    have I := mr_i M
    have hT := I.2.1
    have hP := I.2.2.1
    have hN := I.2.2.2.1
    have nn := M.2.1
    have b44 : g < z 0 2 → z 1 (44 + g) = 0 ∨ z 1 (44 + g) = 1 := fun c => (I.1.2.1 g g0 (by omega)).2
    have e44 : g < z 0 2 → h (196 + 1) (44 + g) = z 1 (44 + g) := fun c => by have e := mr_f M (44 + g) (by omega) (by omega); rw [pm_h (by omega)] at e; exact e
    refine s_iload_n dX9_manyGifts_4 rfl ?_
    refine s_aload_n dX9_manyGifts_5 rfl ?_
    refine s_geti dX9_manyGifts_6 fl_X9_275 kl_7 (by decide) rfl io_196 (z := 7) rfl ?_
    refine s_icmp_ge (tgt := 54) dX9_manyGifts_9 (by decide) (by first | exact hG.2 _ _ | exact b01_in _ | assumption | exact ⟨by omega, by omega⟩) (by first | exact hG.2 _ _ | exact b01_in _ | assumption | exact ⟨by omega, by omega⟩) (fun c1 => ?_) (fun c1 => ?_)
    · exact absurd c1 (by omega)
    · refine s_iload_n dX9_manyGifts_12 rfl ?_
      refine s_iload_n dX9_manyGifts_13 rfl ?_
      refine s_if_eq (tgt := 33) dX9_manyGifts_14 (by decide) (by first | exact hG.2 _ _ | exact b01_in _ | assumption | exact ⟨by omega, by omega⟩) (fun c2 => ?_) (fun c2 => ?_)
      · refine s_aload_n dX9_manyGifts_33 rfl ?_
        refine s_iload_n dX9_manyGifts_34 rfl ?_
        refine s_callV (d' := d - 1) (bc' := 0) (bs' := 0) (as := [_]) dX9_manyGifts_35 vf_X9_322 (dd_ (by omega) (by decide)) ⟨Nat.zero_le _, Nat.zero_le _⟩ rfl rfl (Nat.le_of_ble_eq_true rfl) kl_7 rfl io_196 ?_
        refine c_X9_lapses (by omega) M g0 (by omega) (fun hhG1 ghG1 fhG1 => ?_)
        have hG1 := ghG1
        have fr := fun x y (hx : ¬ x = 196 + 16) => (fhG1 x y hx).trans (fr x y hx)
        have lb : inI (zlp z g) := by unfold zlp; exact b01_in _
        refine s_if_eq (tgt := 45) dX9_manyGifts_38 (by decide) (by first | exact hG1.2 _ _ | exact hG.2 _ _ | exact b01_in _ | assumption | exact ⟨by omega, by omega⟩) (fun c3 => ?_) (fun c3 => ?_)
        · refine s_iconst dX9_manyGifts_45 ?_
          refine s_iadd dX9_manyGifts_46 ?_
          refine s_istore_n dX9_manyGifts_47 (by decide) rfl (L' := [_, _, _, _]) rfl ?_
          refine s_iinc dX9_manyGifts_48 rfl (by decide) rfl (L' := [_, _, _, _]) rfl ?_
          refine s_goto (tgt := 4) dX9_manyGifts_51 (by decide) ?_
          exact ih (g + 1) _ _ (by omega) (by omega) hG1 fr (by rw [sumI_up _ g0, hw]; first | rw [if_pos (by omega)] | rw [if_neg (by omega)])
        · refine s_iconst dX9_manyGifts_41 ?_
          refine s_goto (tgt := 46) dX9_manyGifts_42 (by decide) ?_
          refine s_iadd dX9_manyGifts_46 ?_
          refine s_istore_n dX9_manyGifts_47 (by decide) rfl (L' := [_, _, _, _]) rfl ?_
          refine s_iinc dX9_manyGifts_48 rfl (by decide) rfl (L' := [_, _, _, _]) rfl ?_
          refine s_goto (tgt := 4) dX9_manyGifts_51 (by decide) ?_
          exact ih (g + 1) _ _ (by omega) (by omega) hG1 fr (by rw [sumI_up _ g0, hw]; first | rw [if_pos (by omega)] | rw [if_neg (by omega)])
      · exact absurd c2 (by decide)
set_option maxRecDepth 100000 in
set_option maxHeartbeats 4000000 in
theorem c0_X9_manyGifts  (hd : 4 ≤ d) (M : MR_ h z) (k : ∀ h1 : PH, G h1 → (∀ x y : Int, ¬ x = 196 + 16 → h1 x y = h x y) → Q.1 (some (0, zlapsed z)) nN h1)  : Cl_ yX9_manyGifts MX9_manyGifts d bc bs [(2, 196), (0, 0)] nN h Q := by
  refine s_enter pn_X9 rfl (Nat.le_of_ble_eq_true rfl) (L := [(2, _), (0, _), (9, 0), (9, 0)]) rfl ?_
  have hG := M.1
  have I := mr_i M
  have hT := I.2.1
  have hP := I.2.2.1
  have hN := I.2.2.2.1
  have nn := M.2.1
  refine s_iconst dX9_manyGifts_0 ?_
  refine s_istore_n dX9_manyGifts_1 (by decide) rfl (L' := [_, _, _, _]) rfl ?_
  refine s_iconst dX9_manyGifts_2 ?_
  refine s_istore_n dX9_manyGifts_3 (by decide) rfl (L' := [_, _, _, _]) rfl ?_
  exact lp_X9_manyGifts0 hd M k (z 0 2).toNat 0 0 h (Int.le_refl _) (by omega) hG (fun _ _ _ => rfl) rfl
set_option maxRecDepth 100000 in
set_option maxHeartbeats 4000000 in
theorem lp_X9_manyGifts1  (hd : 4 ≤ d) (M0 : MR_ h0 z) (k : ∀ h : PH, G h → (∀ x y : Int, ¬ x = 196 + 16 → h x y = h0 x y) → Q.1 (some (0, zren z)) nN h) : ∀ (m : Nat) (g w : Int) (h : PH), (0 ≤ g) → (g + m = z 0 2) → (G h) → (∀ x y : Int, ¬ x = 196 + 16 → h x y = h0 x y) → (w = sumI (fun g => if z 1 (44 + g) = 0 then 0 else (1 : Int)) 0 g.toNat) → S_ MX9_manyGifts d bc bs Q 4 [(2, 196), (0, 1), (0, w), (0, g)] [] nN h := by
  intro m
  induction m with
  | zero =>
    intro g w h g0 gm gG fr hw
    have hG := gG
    have M := sc_M M0 gG (sc_16 fr)
    have I := mr_i M
    have hT := I.2.1
    have hP := I.2.2.1
    have hN := I.2.2.2.1
    have nn := M.2.1
    have b44 : g < z 0 2 → z 1 (44 + g) = 0 ∨ z 1 (44 + g) = 1 := fun c => (I.1.2.1 g g0 (by omega)).2
    have e44 : g < z 0 2 → h (196 + 1) (44 + g) = z 1 (44 + g) := fun c => by have e := mr_f M (44 + g) (by omega) (by omega); rw [pm_h (by omega)] at e; exact e
    refine s_iload_n dX9_manyGifts_4 rfl ?_
    refine s_aload_n dX9_manyGifts_5 rfl ?_
    refine s_geti dX9_manyGifts_6 fl_X9_275 kl_7 (by decide) rfl io_196 (z := 7) rfl ?_
    refine s_icmp_ge (tgt := 54) dX9_manyGifts_9 (by decide) (by first | exact hG.2 _ _ | exact b01_in _ | assumption | exact ⟨by omega, by omega⟩) (by first | exact hG.2 _ _ | exact b01_in _ | assumption | exact ⟨by omega, by omega⟩) (fun c1 => ?_) (fun c1 => ?_)
    · refine s_iload_n dX9_manyGifts_54 rfl ?_
      exact s_ireturn dX9_manyGifts_55 rfl (q_val (by rw [hw, show g = z 0 2 by omega]; rfl) (k h gG fr))
    · exact absurd c1 (by omega)
  | succ m ih =>
    intro g w h g0 gm gG fr hw
    have hG := gG
    have M := sc_M M0 gG (sc_16 fr)
    have I := mr_i M
    have hT := I.2.1
    have hP := I.2.2.1
    have hN := I.2.2.2.1
    have nn := M.2.1
    have b44 : g < z 0 2 → z 1 (44 + g) = 0 ∨ z 1 (44 + g) = 1 := fun c => (I.1.2.1 g g0 (by omega)).2
    have e44 : g < z 0 2 → h (196 + 1) (44 + g) = z 1 (44 + g) := fun c => by have e := mr_f M (44 + g) (by omega) (by omega); rw [pm_h (by omega)] at e; exact e
    refine s_iload_n dX9_manyGifts_4 rfl ?_
    refine s_aload_n dX9_manyGifts_5 rfl ?_
    refine s_geti dX9_manyGifts_6 fl_X9_275 kl_7 (by decide) rfl io_196 (z := 7) rfl ?_
    refine s_icmp_ge (tgt := 54) dX9_manyGifts_9 (by decide) (by first | exact hG.2 _ _ | exact b01_in _ | assumption | exact ⟨by omega, by omega⟩) (by first | exact hG.2 _ _ | exact b01_in _ | assumption | exact ⟨by omega, by omega⟩) (fun c1 => ?_) (fun c1 => ?_)
    · exact absurd c1 (by omega)
    · refine s_iload_n dX9_manyGifts_12 rfl ?_
      refine s_iload_n dX9_manyGifts_13 rfl ?_
      refine s_if_eq (tgt := 33) dX9_manyGifts_14 (by decide) (by first | exact hG.2 _ _ | exact b01_in _ | assumption | exact ⟨by omega, by omega⟩) (fun c2 => ?_) (fun c2 => ?_)
      · exact absurd c2 (by decide)
      · refine s_aload_n dX9_manyGifts_17 rfl ?_
        refine s_getr dX9_manyGifts_18 fl_X9_7 kl_7 (by decide) rfl io_196 (z := 1) rfl (rf_7_1 hG.1 io_196) (rk_7_1 io_196).1 ?_
        refine s_bipush dX9_manyGifts_21 (by decide) ?_
        refine s_iload_n dX9_manyGifts_23 rfl ?_
        refine s_iadd dX9_manyGifts_24 ?_
        refine s_iaload dX9_manyGifts_25 (rk_7_1 io_196) (by omega) (by omega) ?_
        have b44 := b44 (by omega)
        have e44 := e44 (by omega)
        rw [e44]
        refine s_iconst dX9_manyGifts_26 ?_
        refine s_icmp_ne (tgt := 45) dX9_manyGifts_27 (by decide) (by first | exact hG.2 _ _ | exact b01_in _ | assumption | exact ⟨by omega, by omega⟩) (by first | exact hG.2 _ _ | exact b01_in _ | assumption | exact ⟨by omega, by omega⟩) (fun c3 => ?_) (fun c3 => ?_)
        · refine s_iconst dX9_manyGifts_45 ?_
          refine s_iadd dX9_manyGifts_46 ?_
          refine s_istore_n dX9_manyGifts_47 (by decide) rfl (L' := [_, _, _, _]) rfl ?_
          refine s_iinc dX9_manyGifts_48 rfl (by decide) rfl (L' := [_, _, _, _]) rfl ?_
          refine s_goto (tgt := 4) dX9_manyGifts_51 (by decide) ?_
          exact ih (g + 1) _ _ (by omega) (by omega) hG fr (by rw [sumI_up _ g0, hw]; first | rw [if_pos (by omega)] | rw [if_neg (by omega)])
        · refine s_goto (tgt := 41) dX9_manyGifts_30 (by decide) ?_
          refine s_iconst dX9_manyGifts_41 ?_
          refine s_goto (tgt := 46) dX9_manyGifts_42 (by decide) ?_
          refine s_iadd dX9_manyGifts_46 ?_
          refine s_istore_n dX9_manyGifts_47 (by decide) rfl (L' := [_, _, _, _]) rfl ?_
          refine s_iinc dX9_manyGifts_48 rfl (by decide) rfl (L' := [_, _, _, _]) rfl ?_
          refine s_goto (tgt := 4) dX9_manyGifts_51 (by decide) ?_
          exact ih (g + 1) _ _ (by omega) (by omega) hG fr (by rw [sumI_up _ g0, hw]; first | rw [if_pos (by omega)] | rw [if_neg (by omega)])
set_option maxRecDepth 100000 in
set_option maxHeartbeats 4000000 in
theorem c1_X9_manyGifts  (hd : 4 ≤ d) (M : MR_ h z) (k : ∀ h1 : PH, G h1 → (∀ x y : Int, ¬ x = 196 + 16 → h1 x y = h x y) → Q.1 (some (0, zren z)) nN h1)  : Cl_ yX9_manyGifts MX9_manyGifts d bc bs [(2, 196), (0, 1)] nN h Q := by
  refine s_enter pn_X9 rfl (Nat.le_of_ble_eq_true rfl) (L := [(2, _), (0, _), (9, 0), (9, 0)]) rfl ?_
  have hG := M.1
  have I := mr_i M
  have hT := I.2.1
  have hP := I.2.2.1
  have hN := I.2.2.2.1
  have nn := M.2.1
  refine s_iconst dX9_manyGifts_0 ?_
  refine s_istore_n dX9_manyGifts_1 (by decide) rfl (L' := [_, _, _, _]) rfl ?_
  refine s_iconst dX9_manyGifts_2 ?_
  refine s_istore_n dX9_manyGifts_3 (by decide) rfl (L' := [_, _, _, _]) rfl ?_
  exact lp_X9_manyGifts1 hd M k (z 0 2).toNat 0 0 h (Int.le_refl _) (by omega) hG (fun _ _ _ => rfl) rfl
set_option maxRecDepth 100000 in
set_option maxHeartbeats 4000000 in
theorem c_X9_count {v : Int} (hd : 10 ≤ d) (M : MR_ h z) (hv : inI v) (k : MK_ Q h z 0 (zcount z v)) : Cl_ yX9_count MX9_count d bc bs [(2, 196), (0, v)] nN h Q := by
  refine s_enter pn_X9 rfl (Nat.le_of_ble_eq_true rfl) (L := [(2, _), (0, _)]) rfl ?_
  have hG := M.1
  have I := mr_i M
  have hT := I.2.1
  have hP := I.2.2.1
  have hN := I.2.2.2.1
  have nn := M.2.1
  refine s_aload_n dX9_count_0 rfl ?_
  refine s_iconst dX9_count_1 ?_
  refine s_putiG 0 dX9_count_2 fl_X9_98 kl_7 (by decide) rfl rfl io_196 (z := 0) rfl (by decide +kernel) hG (by first | exact hG.2 _ _ | exact b01_in _ | assumption | exact ⟨by omega, by omega⟩) (fun hG1 => ?_)
  obtain ⟨M, fm, th⟩ := mr_th M hG1
  have nn := M.2.1
  refine s_iload_n dX9_count_5 rfl ?_
  rcases (by omega : v = 0 ∨ v = 1 ∨ v = 2 ∨ v = 3 ∨ v = 4 ∨ v = 5 ∨ v = 6 ∨ v = 7 ∨ v = 8 ∨ v = 9 ∨ v = 10 ∨ v = 11 ∨ v = 12 ∨ v = 13 ∨ v = 14 ∨ (v < 0 ∨ 14 < v)) with rfl | rfl | rfl | rfl | rfl | rfl | rfl | rfl | rfl | rfl | rfl | rfl | rfl | rfl | rfl | c1
  · refine s_tabIn (tgt := 80) dX9_count_6 (by first | exact hG1.2 _ _ | exact hG.2 _ _ | exact b01_in _ | assumption | exact ⟨by omega, by omega⟩) (by decide) (by decide) rfl (by decide) ?_
    refine s_aload_n dX9_count_80 rfl ?_
    refine s_geti dX9_count_81 fl_X9_278 kl_7 (by decide) rfl io_196 (z := 5) rfl ?_
    exact s_ireturn dX9_count_84 rfl (q_val (by rw [nn.1]; unfold zcount; rw [if_pos (by omega)]) (k _ M fm th))
  · refine s_tabIn (tgt := 85) dX9_count_6 (by first | exact hG1.2 _ _ | exact hG.2 _ _ | exact b01_in _ | assumption | exact ⟨by omega, by omega⟩) (by decide) (by decide) rfl (by decide) ?_
    refine s_aload_n dX9_count_85 rfl ?_
    refine s_geti dX9_count_86 fl_X9_281 kl_7 (by decide) rfl io_196 (z := 6) rfl ?_
    exact s_ireturn dX9_count_89 rfl (q_val (by rw [nn.2.1]; unfold zcount; rw [if_neg (by omega), if_pos (by omega)]) (k _ M fm th))
  · refine s_tabIn (tgt := 90) dX9_count_6 (by first | exact hG1.2 _ _ | exact hG.2 _ _ | exact b01_in _ | assumption | exact ⟨by omega, by omega⟩) (by decide) (by decide) rfl (by decide) ?_
    refine s_aload_n dX9_count_90 rfl ?_
    refine s_geti dX9_count_91 fl_X9_275 kl_7 (by decide) rfl io_196 (z := 7) rfl ?_
    exact s_ireturn dX9_count_94 rfl (q_val (by rw [nn.2.2]; unfold zcount; rw [if_neg (by omega), if_neg (by omega), if_pos (by omega)]) (k _ M fm th))
  · refine s_tabIn (tgt := 95) dX9_count_6 (by first | exact hG1.2 _ _ | exact hG.2 _ _ | exact b01_in _ | assumption | exact ⟨by omega, by omega⟩) (by decide) (by decide) rfl (by decide) ?_
    refine s_aload_n dX9_count_95 rfl ?_
    refine s_getr dX9_count_96 fl_X9_7 kl_7 (by decide) rfl io_196 (z := 1) rfl (rf_7_1 hG1.1 io_196) (rk_7_1 io_196).1 ?_
    refine s_bipush dX9_count_99 (by decide) ?_
    refine s_iload_n dX9_count_101 rfl ?_
    refine s_iadd dX9_count_102 ?_
    refine s_iconst dX9_count_103 ?_
    refine s_isub dX9_count_104 ?_
    refine s_iaload dX9_count_105 (rk_7_1 io_196) (by omega) (by omega) ?_
    first
      | rw [mr_f M (56 + 3 - 3) (by omega) (by omega), pm_h (by omega)]
      | rw [mr_f M (56 + 4 - 3) (by omega) (by omega), pm_h (by omega)]
      | rw [mr_f M (56 + 5 - 3) (by omega) (by omega), pm_h (by omega)]
      | rw [mr_f M (56 + 6 - 3) (by omega) (by omega), pm_h (by omega)]
      | rw [mr_f M (56 + 7 - 3) (by omega) (by omega), pm_h (by omega)]
    exact s_ireturn dX9_count_106 rfl (q_val (by unfold zcount; rw [if_neg (by omega), if_neg (by omega), if_neg (by omega), if_pos (by omega)]; rfl) (k _ M fm th))
  · refine s_tabIn (tgt := 95) dX9_count_6 (by first | exact hG1.2 _ _ | exact hG.2 _ _ | exact b01_in _ | assumption | exact ⟨by omega, by omega⟩) (by decide) (by decide) rfl (by decide) ?_
    refine s_aload_n dX9_count_95 rfl ?_
    refine s_getr dX9_count_96 fl_X9_7 kl_7 (by decide) rfl io_196 (z := 1) rfl (rf_7_1 hG1.1 io_196) (rk_7_1 io_196).1 ?_
    refine s_bipush dX9_count_99 (by decide) ?_
    refine s_iload_n dX9_count_101 rfl ?_
    refine s_iadd dX9_count_102 ?_
    refine s_iconst dX9_count_103 ?_
    refine s_isub dX9_count_104 ?_
    refine s_iaload dX9_count_105 (rk_7_1 io_196) (by omega) (by omega) ?_
    first
      | rw [mr_f M (56 + 3 - 3) (by omega) (by omega), pm_h (by omega)]
      | rw [mr_f M (56 + 4 - 3) (by omega) (by omega), pm_h (by omega)]
      | rw [mr_f M (56 + 5 - 3) (by omega) (by omega), pm_h (by omega)]
      | rw [mr_f M (56 + 6 - 3) (by omega) (by omega), pm_h (by omega)]
      | rw [mr_f M (56 + 7 - 3) (by omega) (by omega), pm_h (by omega)]
    exact s_ireturn dX9_count_106 rfl (q_val (by unfold zcount; rw [if_neg (by omega), if_neg (by omega), if_neg (by omega), if_pos (by omega)]; rfl) (k _ M fm th))
  · refine s_tabIn (tgt := 95) dX9_count_6 (by first | exact hG1.2 _ _ | exact hG.2 _ _ | exact b01_in _ | assumption | exact ⟨by omega, by omega⟩) (by decide) (by decide) rfl (by decide) ?_
    refine s_aload_n dX9_count_95 rfl ?_
    refine s_getr dX9_count_96 fl_X9_7 kl_7 (by decide) rfl io_196 (z := 1) rfl (rf_7_1 hG1.1 io_196) (rk_7_1 io_196).1 ?_
    refine s_bipush dX9_count_99 (by decide) ?_
    refine s_iload_n dX9_count_101 rfl ?_
    refine s_iadd dX9_count_102 ?_
    refine s_iconst dX9_count_103 ?_
    refine s_isub dX9_count_104 ?_
    refine s_iaload dX9_count_105 (rk_7_1 io_196) (by omega) (by omega) ?_
    first
      | rw [mr_f M (56 + 3 - 3) (by omega) (by omega), pm_h (by omega)]
      | rw [mr_f M (56 + 4 - 3) (by omega) (by omega), pm_h (by omega)]
      | rw [mr_f M (56 + 5 - 3) (by omega) (by omega), pm_h (by omega)]
      | rw [mr_f M (56 + 6 - 3) (by omega) (by omega), pm_h (by omega)]
      | rw [mr_f M (56 + 7 - 3) (by omega) (by omega), pm_h (by omega)]
    exact s_ireturn dX9_count_106 rfl (q_val (by unfold zcount; rw [if_neg (by omega), if_neg (by omega), if_neg (by omega), if_pos (by omega)]; rfl) (k _ M fm th))
  · refine s_tabIn (tgt := 95) dX9_count_6 (by first | exact hG1.2 _ _ | exact hG.2 _ _ | exact b01_in _ | assumption | exact ⟨by omega, by omega⟩) (by decide) (by decide) rfl (by decide) ?_
    refine s_aload_n dX9_count_95 rfl ?_
    refine s_getr dX9_count_96 fl_X9_7 kl_7 (by decide) rfl io_196 (z := 1) rfl (rf_7_1 hG1.1 io_196) (rk_7_1 io_196).1 ?_
    refine s_bipush dX9_count_99 (by decide) ?_
    refine s_iload_n dX9_count_101 rfl ?_
    refine s_iadd dX9_count_102 ?_
    refine s_iconst dX9_count_103 ?_
    refine s_isub dX9_count_104 ?_
    refine s_iaload dX9_count_105 (rk_7_1 io_196) (by omega) (by omega) ?_
    first
      | rw [mr_f M (56 + 3 - 3) (by omega) (by omega), pm_h (by omega)]
      | rw [mr_f M (56 + 4 - 3) (by omega) (by omega), pm_h (by omega)]
      | rw [mr_f M (56 + 5 - 3) (by omega) (by omega), pm_h (by omega)]
      | rw [mr_f M (56 + 6 - 3) (by omega) (by omega), pm_h (by omega)]
      | rw [mr_f M (56 + 7 - 3) (by omega) (by omega), pm_h (by omega)]
    exact s_ireturn dX9_count_106 rfl (q_val (by unfold zcount; rw [if_neg (by omega), if_neg (by omega), if_neg (by omega), if_pos (by omega)]; rfl) (k _ M fm th))
  · refine s_tabIn (tgt := 95) dX9_count_6 (by first | exact hG1.2 _ _ | exact hG.2 _ _ | exact b01_in _ | assumption | exact ⟨by omega, by omega⟩) (by decide) (by decide) rfl (by decide) ?_
    refine s_aload_n dX9_count_95 rfl ?_
    refine s_getr dX9_count_96 fl_X9_7 kl_7 (by decide) rfl io_196 (z := 1) rfl (rf_7_1 hG1.1 io_196) (rk_7_1 io_196).1 ?_
    refine s_bipush dX9_count_99 (by decide) ?_
    refine s_iload_n dX9_count_101 rfl ?_
    refine s_iadd dX9_count_102 ?_
    refine s_iconst dX9_count_103 ?_
    refine s_isub dX9_count_104 ?_
    refine s_iaload dX9_count_105 (rk_7_1 io_196) (by omega) (by omega) ?_
    first
      | rw [mr_f M (56 + 3 - 3) (by omega) (by omega), pm_h (by omega)]
      | rw [mr_f M (56 + 4 - 3) (by omega) (by omega), pm_h (by omega)]
      | rw [mr_f M (56 + 5 - 3) (by omega) (by omega), pm_h (by omega)]
      | rw [mr_f M (56 + 6 - 3) (by omega) (by omega), pm_h (by omega)]
      | rw [mr_f M (56 + 7 - 3) (by omega) (by omega), pm_h (by omega)]
    exact s_ireturn dX9_count_106 rfl (q_val (by unfold zcount; rw [if_neg (by omega), if_neg (by omega), if_neg (by omega), if_pos (by omega)]; rfl) (k _ M fm th))
  · refine s_tabIn (tgt := 107) dX9_count_6 (by first | exact hG1.2 _ _ | exact hG.2 _ _ | exact b01_in _ | assumption | exact ⟨by omega, by omega⟩) (by decide) (by decide) rfl (by decide) ?_
    refine s_aload_n dX9_count_107 rfl ?_
    refine s_callV (d' := d - 1) (bc' := 0) (bs' := 0) (as := []) dX9_count_108 vf_X9_341 (dd_ (by omega) (by decide)) ⟨Nat.zero_le _, Nat.zero_le _⟩ rfl rfl (Nat.le_of_ble_eq_true rfl) kl_7 rfl io_196 ?_
    refine c_X9_living (by omega) M ?_
    exact s_ireturn dX9_count_111 rfl (q_val (by unfold zcount; rw [if_neg (by omega), if_neg (by omega), if_neg (by omega), if_neg (by omega), if_pos (by omega)]; rfl) (k _ M fm th))
  · refine s_tabIn (tgt := 112) dX9_count_6 (by first | exact hG1.2 _ _ | exact hG.2 _ _ | exact b01_in _ | assumption | exact ⟨by omega, by omega⟩) (by decide) (by decide) rfl (by decide) ?_
    refine s_aload_n dX9_count_112 rfl ?_
    refine s_callV (d' := d - 1) (bc' := 0) (bs' := 0) (as := []) dX9_count_113 vf_X9_457 (dd_ (by omega) (by decide)) ⟨Nat.zero_le _, Nat.zero_le _⟩ rfl rfl (Nat.le_of_ble_eq_true rfl) kl_7 rfl io_196 ?_
    refine c_X9_manyHeld (by omega) M ?_
    exact s_ireturn dX9_count_116 rfl (q_val (by unfold zcount; rw [if_neg (by omega), if_neg (by omega), if_neg (by omega), if_neg (by omega), if_neg (by omega), if_pos (by omega)]) (k _ M fm th))
  · refine s_tabIn (tgt := 117) dX9_count_6 (by first | exact hG1.2 _ _ | exact hG.2 _ _ | exact b01_in _ | assumption | exact ⟨by omega, by omega⟩) (by decide) (by decide) rfl (by decide) ?_
    refine s_aload_n dX9_count_117 rfl ?_
    refine s_iconst dX9_count_118 ?_
    refine s_callV (d' := d - 1) (bc' := 0) (bs' := 0) (as := [_]) dX9_count_119 vf_X9_460 (dd_ (by omega) (by decide)) ⟨Nat.zero_le _, Nat.zero_le _⟩ rfl rfl (Nat.le_of_ble_eq_true rfl) kl_7 rfl io_196 ?_
    refine c0_X9_manyGifts (by omega) M (fun hhG2 ghG2 fhG2 => ?_)
    have hG2 := ghG2
    have M := sc_M M ghG2 (sc_16 fhG2)
    have fm := fm.tr (sc_fm (sc_16 fhG2))
    have th := (sc_0 (sc_16 fhG2)).trans th
    exact s_ireturn dX9_count_122 rfl (q_val (by unfold zcount; rw [if_neg (by omega), if_neg (by omega), if_neg (by omega), if_neg (by omega), if_neg (by omega), if_neg (by omega), if_pos (by omega)]) (k _ M fm th))
  · refine s_tabIn (tgt := 123) dX9_count_6 (by first | exact hG1.2 _ _ | exact hG.2 _ _ | exact b01_in _ | assumption | exact ⟨by omega, by omega⟩) (by decide) (by decide) rfl (by decide) ?_
    refine s_aload_n dX9_count_123 rfl ?_
    refine s_callV (d' := d - 1) (bc' := 0) (bs' := 0) (as := []) dX9_count_124 vf_X9_397 (dd_ (by omega) (by decide)) ⟨Nat.zero_le _, Nat.zero_le _⟩ rfl rfl (Nat.le_of_ble_eq_true rfl) kl_7 rfl io_196 ?_
    refine c_X9_heirMany (by omega) M (fun hhG3 ghG3 fhG3 => ?_)
    have hG3 := ghG3
    have M := sc_M M ghG3 (sc_16 fhG3)
    have fm := fm.tr (sc_fm (sc_16 fhG3))
    have th := (sc_0 (sc_16 fhG3)).trans th
    exact s_ireturn dX9_count_127 rfl (q_val (by unfold zcount; rw [if_neg (by omega), if_neg (by omega), if_neg (by omega), if_neg (by omega), if_neg (by omega), if_neg (by omega), if_neg (by omega), if_pos (by omega)]) (k _ M fm th))
  · refine s_tabIn (tgt := 128) dX9_count_6 (by first | exact hG1.2 _ _ | exact hG.2 _ _ | exact b01_in _ | assumption | exact ⟨by omega, by omega⟩) (by decide) (by decide) rfl (by decide) ?_
    refine s_aload_n dX9_count_128 rfl ?_
    refine s_geti dX9_count_129 fl_X9_284 kl_7 (by decide) rfl io_196 (z := 4) rfl ?_
    exact s_ireturn dX9_count_132 rfl (q_val (by rw [M.2.2.2.1.1]; unfold zcount; rw [if_neg (by omega), if_neg (by omega), if_neg (by omega), if_neg (by omega), if_neg (by omega), if_neg (by omega), if_neg (by omega), if_neg (by omega), if_pos (by omega)]) (k _ M fm th))
  · refine s_tabIn (tgt := 133) dX9_count_6 (by first | exact hG1.2 _ _ | exact hG.2 _ _ | exact b01_in _ | assumption | exact ⟨by omega, by omega⟩) (by decide) (by decide) rfl (by decide) ?_
    refine s_aload_n dX9_count_133 rfl ?_
    refine s_geti dX9_count_134 fl_X9_448 kl_7 (by decide) rfl io_196 (z := 44) rfl ?_
    exact s_ireturn dX9_count_137 rfl (q_val (by rw [M.2.2.2.2.2.2.2.2.2.2.1.1]; unfold zcount; rw [if_neg (by omega), if_neg (by omega), if_neg (by omega), if_neg (by omega), if_neg (by omega), if_neg (by omega), if_neg (by omega), if_neg (by omega), if_neg (by omega), if_pos (by omega)]) (k _ M fm th))
  · refine s_tabIn (tgt := 138) dX9_count_6 (by first | exact hG1.2 _ _ | exact hG.2 _ _ | exact b01_in _ | assumption | exact ⟨by omega, by omega⟩) (by decide) (by decide) rfl (by decide) ?_
    refine s_aload_n dX9_count_138 rfl ?_
    refine s_iconst dX9_count_139 ?_
    refine s_callV (d' := d - 1) (bc' := 0) (bs' := 0) (as := [_]) dX9_count_140 vf_X9_460 (dd_ (by omega) (by decide)) ⟨Nat.zero_le _, Nat.zero_le _⟩ rfl rfl (Nat.le_of_ble_eq_true rfl) kl_7 rfl io_196 ?_
    refine c1_X9_manyGifts (by omega) M (fun hhG4 ghG4 fhG4 => ?_)
    have hG4 := ghG4
    have M := sc_M M ghG4 (sc_16 fhG4)
    have fm := fm.tr (sc_fm (sc_16 fhG4))
    have th := (sc_0 (sc_16 fhG4)).trans th
    exact s_ireturn dX9_count_143 rfl (q_val (by unfold zcount; rw [if_neg (by omega), if_neg (by omega), if_neg (by omega), if_neg (by omega), if_neg (by omega), if_neg (by omega), if_neg (by omega), if_neg (by omega), if_neg (by omega), if_neg (by omega), if_pos (by omega)]) (k _ M fm th))
  · refine s_tabOut (tgt := 144) dX9_count_6 (by first | exact hG1.2 _ _ | exact hG.2 _ _ | exact b01_in _ | assumption | exact ⟨by omega, by omega⟩) c1 (by decide) ?_
    refine s_iconst dX9_count_144 ?_
    exact s_ireturn dX9_count_145 rfl (q_val (by unfold zcount; rw [if_neg (by omega), if_neg (by omega), if_neg (by omega), if_neg (by omega), if_neg (by omega), if_neg (by omega), if_neg (by omega), if_neg (by omega), if_neg (by omega), if_neg (by omega), if_neg (by omega)]) (k _ M fm th))
end X9N
