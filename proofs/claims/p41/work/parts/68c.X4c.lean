/-! WillHouse$Reader: a line -/
/-- what is owed where a piece of the text makes u -/
def OT_ (Q : PQ) (bc bs : Nat) (h0 : PH) (v n : Int) (u : OU) : Prop := (u.1 = -1 → ∀ (s' : Int) (h' : PH), 0 ≤ u.2.1 → u.2.1 ≤ n → RS_ h0 v n (u.2.2 0 1) u.2.1 s' u.2.2 h' → Q.1 none nN h') ∧ (¬ u.1 = -1 → (1 ≤ bc ∧ 6 ≤ bs) ∧ ∀ h' : PH, RX_ h0 v u.1 h' → Q.2 IAE nN h')
section X4K
variable {Q : PQ} {bc bs : Nat} {h0 h y : PH} {v n m a s : Int} {T : Int → Int}
theorem ot_x {f x : Int} {w : PH} (K : OT_ Q bc bs h0 v n (f, x, w)) (hf : 0 ≤ f) : (1 ≤ bc ∧ 6 ≤ bs) ∧ ∀ h' : PH, RX_ h0 v f h' → Q.2 IAE nN h' := K.2 (show ¬ f = -1 by omega)
theorem ot_ok {s' : Int} {h' : PH} (K : OT_ Q bc bs h0 v n (-1, a, y)) (em : m = y 0 1) (a0 : 0 ≤ a) (a1 : a ≤ n) (R : RS_ h0 v n m a s' y h') : Q.1 none nN h' := by
  subst em
  exact K.1 rfl s' h' a0 a1 R
theorem ot_f {c : Prop} {X Y : OU} (K : OT_ Q bc bs h0 v n (iC (¬ c) X Y)) (h : ¬ c) : OT_ Q bc bs h0 v n X := by
  rw [iC_t h] at K
  exact K
theorem ot_t {c : Prop} {X Y : OU} (K : OT_ Q bc bs h0 v n (iC (¬ c) X Y)) (h : c) : OT_ Q bc bs h0 v n Y := by
  rw [iC_f (fun z => z h)] at K
  exact K
theorem ot_g {c : Prop} {X Y : OU} (K : OT_ Q bc bs h0 v n (iC c X Y)) (h : c) : OT_ Q bc bs h0 v n X := by
  rw [iC_t h] at K
  exact K
theorem ot_u {c : Prop} {X Y : OU} (K : OT_ Q bc bs h0 v n (iC c X Y)) (h : ¬ c) : OT_ Q bc bs h0 v n Y := by
  rw [iC_f h] at K
  exact K
theorem fe_fu {A : Int} {F : Int → Int} {g : PH} {j w : Int} (H : ∀ k : Int, 0 ≤ k → k < 61 → g A k = F k) : ∀ k : Int, 0 ≤ k → k < 61 → hs_ g A j w A k = fu_ F j w k := fun k k0 k1 => by
  by_cases e : k = j
  · rw [e, hs_eq, fu_eq]
  · rw [hs_ne _ (fun q => e q.2), fu_ne e]
    exact H k k0 k1
theorem zok_in {k w : Int} (o : zok k w) : inI w := by
  unfold zok at o
  refine ⟨?_, ?_⟩ <;> omega
theorem rs_fu {k w : Int} (E : EV_ h0 v n T) (R : RS_ h0 v n m a s y h) (o : zok k w) : RS_ h0 v n m a s (zput y (fu_ (y 1) k w)) (hs_ h (2 + 38 + 1) k w) :=
  rs_f E.1 R (g_putA R.1.1 (rk_1_0 (rk_3_1 io_2)) (by decide) (zok_in o)) (fun x j hx => hs_ne _ (fun q => hx q.1)) (fe_fu R.2.2.1.2.1) (zf_fu (zf_z.mp R.2.2.2.2.2.1) o)
theorem rs_fs {t p o x : Int} (E : EV_ h0 v n T) (R : RS_ h0 v n m a s y h) (t0 : 0 ≤ t) (t1 : t < 8) (p0 : 1 ≤ p) (p1 : p ≤ 9999) (o0 : 0 ≤ o) (o1 : o ≤ p) (hc : y 1 56 + p - o ≤ 99999) (ex : x = y 1 56) : RS_ h0 v n m a s (zput y (fsold (y 1) t p o)) (hs_ (hs_ (hs_ (hs_ h (2 + 38 + 1) (8 + t) 1) (2 + 38 + 1) (16 + t) p) (2 + 38 + 1) (24 + t) o) (2 + 38 + 1) 56 (x + (p - o))) := by
  subst ex
  have B := R.2.2.2.2.2.1.2.2.1
  have A := rk_1_0 (rk_3_1 io_2)
  have g1 := g_putA (k := 8 + t) (v := 1) R.1.1 A (by decide) ⟨by decide, by decide⟩
  have g2 := g_putA (k := 16 + t) (v := p) g1 A (by decide) ⟨by omega, by omega⟩
  have g3 := g_putA (k := 24 + t) (v := o) g2 A (by decide) ⟨by omega, by omega⟩
  have g4 := g_putA (k := 56) (v := y 1 56 + (p - o)) g3 A (by decide) ⟨by omega, by omega⟩
  exact rs_f E.1 R g4 (fun x j hx => by rw [hs_ne _ (fun q => hx q.1), hs_ne _ (fun q => hx q.1), hs_ne _ (fun q => hx q.1), hs_ne _ (fun q => hx q.1)]) (fe_fu (fe_fu (fe_fu (fe_fu R.2.2.1.2.1)))) (zf_sold (zf_z.mp R.2.2.2.2.2.1) t0 t1 p0 p1 o0 o1 hc)
theorem rs_fl {t p : Int} (E : EV_ h0 v n T) (R : RS_ h0 v n m a s y h) (t0 : 0 ≤ t) (t1 : t < 8) (p0 : 0 ≤ p) (p1 : p ≤ 9999) : RS_ h0 v n m a s (zput y (flost (y 1) t p)) (hs_ (hs_ h (2 + 38 + 1) (8 + t) 2) (2 + 38 + 1) (24 + t) p) := by
  have A := rk_1_0 (rk_3_1 io_2)
  have g1 := g_putA (k := 8 + t) (v := 2) R.1.1 A (by decide) ⟨by decide, by decide⟩
  have g2 := g_putA (k := 24 + t) (v := p) g1 A (by decide) ⟨by omega, by omega⟩
  exact rs_f E.1 R g2 (fun x j hx => by rw [hs_ne _ (fun q => hx q.1), hs_ne _ (fun q => hx q.1)]) (fe_fu (fe_fu R.2.2.1.2.1)) (zf_lost (zf_z.mp R.2.2.2.2.2.1) t0 t1 p0 p1)
theorem rs_pu {q c : Int} (E : EV_ h0 v n T) (R : RS_ h0 v n m a s y h) (em : m + 1 = y 0 1) (q0 : -1 ≤ q) (q1 : q < m) (hc : c = 0 ∨ c = 1) (hcq : ¬ c = 0 → q = -1) : RS_ h0 v n (m + 1) a s (ypa y m q c) (hs_ (hs_ (hs_ h (v + 29) m q) (v + 30) m c) (v + 31) m (if ¬ c = 0 ∨ (¬ q = -1 ∧ ¬ h (v + 31) q = 0) then 1 else 0)) := by
  have W := ev_w E
  have i2 := R.2.2.2.2.2.2.1.2.1
  have g1 := g_putA (k := m) (v := q) R.1.1 (rk_5_4 W) (by decide) ⟨by omega, by omega⟩
  have g2 := g_putA (k := m) (v := c) g1 (rk_5_5 W) (by decide) ⟨by omega, by omega⟩
  have g3 := g_putA (k := m) (v := if ¬ c = 0 ∨ (¬ q = -1 ∧ ¬ h (v + 31) q = 0) then 1 else 0) g2 (rk_5_6 W) (by decide) (by rcases ite01 (¬ c = 0 ∨ (¬ q = -1 ∧ ¬ h (v + 31) q = 0)) with e | e <;> rw [e] <;> exact ⟨by decide, by decide⟩)
  refine rs_pp E.1 R em g3 q0 q1 hc hcq (fun x k hx => ?_) ?_ ?_ (hs_eq _ _ _ _)
  · rw [hs_ne _ (fun z => hx ⟨z.2, Or.inr (Or.inr z.1)⟩), hs_ne _ (fun z => hx ⟨z.2, Or.inr (Or.inl z.1)⟩), hs_ne _ (fun z => hx ⟨z.2, Or.inl z.1⟩)]
  · rw [hs_ne _ (by omega), hs_ne _ (by omega), hs_eq]
  · rw [hs_ne _ (by omega), hs_eq]
theorem fd_all {P : Int → Prop} : ∀ (m : Nat) (i : Int), 0 ≤ i → (fd_ P m i = -1 → ∀ j : Int, i ≤ j → j < i + m → ¬ P j) ∧ (∀ j : Int, i ≤ j → j < fd_ P m i → ¬ P j)
  | 0, i, h => ⟨fun _ j a b => by omega, fun j a b => by rw [fd_] at b; omega⟩
  | m + 1, i, h => by
    rw [fd_]
    split
    · exact ⟨fun e => by omega, fun j a b => by omega⟩
    · rename_i c
      have ih := fd_all (P := P) m (i + 1) (by omega)
      refine ⟨fun e j a b => ?_, fun j a b => ?_⟩
      · rcases (by omega : j = i ∨ i + 1 ≤ j) with q | q
        · rw [q]; exact c
        · exact ih.1 e j q (by omega)
      · rcases (by omega : j = i ∨ i + 1 ≤ j) with q | q
        · rw [q]; exact c
        · exact ih.2 j q b
theorem tP_np {p l b : Int} (hm : 0 ≤ y 0 1) : (tP (ynp y T p l) T n b = -1 ∨ tP (ynp y T p l) T n b = y 0 1 → tP y T n b = -1) ∧ (¬ tP (ynp y T p l) T n b = -1 → ¬ tP (ynp y T p l) T n b = y 0 1 → tP (ynp y T p l) T n b = tP y T n b ∧ 0 ≤ tP y T n b ∧ tP y T n b < y 0 1) := by
  have e1 : (ynp y T p l) 0 1 = y 0 1 + 1 := by rw [ynp_0, fu_eq]
  have iff : ∀ j : Int, 0 ≤ j → j < y 0 1 → (np_ (ynp y T p l) T (nb_ T n b) (wl__ T n b) j ↔ np_ y T (nb_ T n b) (wl__ T n b) j) := fun j j0 j1 => by
    unfold np_
    rw [ynp_11, fu_ne (by omega), ynp_ne (x := 30 + j) (by omega) (by omega) (by omega)]
  have A := fd_all (P := np_ (ynp y T p l) T (nb_ T n b) (wl__ T n b)) ((ynp y T p l) 0 1).toNat 0 (Int.le_refl _)
  have B := fd_bd (P := np_ (ynp y T p l) T (nb_ T n b) (wl__ T n b)) ((ynp y T p l) 0 1).toNat 0
  have eq : fd_ (np_ (ynp y T p l) T (nb_ T n b) (wl__ T n b)) ((ynp y T p l) 0 1).toNat 0 = tP (ynp y T p l) T n b := rfl
  rw [eq, e1] at A B
  refine ⟨fun h => fd_no _ _ (fun j j0 j1 z => ?_), fun h1 h2 => ?_⟩
  · rcases h with h | h
    · exact A.1 h j j0 (by omega) ((iff j j0 (by omega)).mpr z)
    · exact A.2 j j0 (by omega) ((iff j j0 (by omega)).mpr z)
  · rcases B with B | B
    · exact absurd B h1
    · have q := B.2.1
      have r : tP y T n b = tP (ynp y T p l) T n b := fd_at _ _ _ B.1 (by omega) ((iff _ B.1 (by omega)).mp B.2.2) (fun j j0 j1 z => A.2 j j0 j1 ((iff j j0 (by omega)).mpr z))
      rw [r]
      exact ⟨rfl, B.1, by omega⟩
theorem pgR_bd {a : Int} (a0 : 0 ≤ a) (a1 : a ≤ n) : 0 ≤ (pgR 1 T n a y).2.1 ∧ (pgR 1 T n a y).2.1 ≤ n := by
  have b := wn_bd (T := T) a1
  have b2 := dn_bd (T := T) (n := n) (a := wn_ T n a) b.2.2
  have e : pgR 1 T n a y = iC (nb_ T n a < wn_ T n a) (iC (¬ okW T n a 10) (nb_ T n a, 0, y) (iC (¬ okN T n (wn_ T n a) 1 4) (nb_ T n (wn_ T n a), 0, y) (-1, dn_ T n (wn_ T n a), fun _ _ => dv_ T n (wn_ T n a)))) (-1, nb_ T n a, fun _ _ => 4) := iC_t (Or.inl rfl)
  rw [e]
  by_cases c1 : nb_ T n a < wn_ T n a
  · rw [iC_t c1]
    by_cases c2 : ¬ okW T n a 10
    · rw [iC_t c2]
      show 0 ≤ (0 : Int) ∧ (0 : Int) ≤ n
      omega
    · rw [iC_f c2]
      by_cases c3 : ¬ okN T n (wn_ T n a) 1 4
      · rw [iC_t c3]
        show 0 ≤ (0 : Int) ∧ (0 : Int) ≤ n
        omega
      · rw [iC_f c3]
        show 0 ≤ dn_ T n (wn_ T n a) ∧ dn_ T n (wn_ T n a) ≤ n
        omega
  · rw [iC_f c1]
    show 0 ≤ nb_ T n a ∧ nb_ T n a ≤ n
    omega
theorem rs_gu {k p t mm r : Int} {h' : PH} (E : EV_ h0 v n T) (R : RS_ h0 v n (y 0 1) a s y h) (g12 : y 0 2 < 12) (k0 : 0 ≤ k ∧ k ≤ 3) (hp : 0 ≤ p ∧ p < y 0 1) (ht : k = 0 ∨ k = 2 → 0 ≤ t ∧ t < y 0 0) (ht2 : k = 1 ∨ k = 3 → t = -1) (hm0 : k = 0 → mm = -1) (hm1 : k = 1 ∨ k = 2 → 1 ≤ mm ∧ mm ≤ 9999) (hm3 : k = 3 → 1 ≤ mm ∧ mm ≤ 9) (hr : k = 1 ∨ k = 2 → 1 ≤ r ∧ r ≤ 4) (hr2 : k = 0 ∨ k = 3 → r = -1)
    (e : (k = 0 ∧ h' = hs_ (ag_ h v (y 0 2) k p t mm r) (v + 12) t 1) ∨ (k = 2 ∧ h' = hs_ (ag_ h v (y 0 2) k p t mm r) (v + 13) t 1) ∨ ((k = 1 ∨ k = 3) ∧ h' = ag_ h v (y 0 2) k p t mm r)) : RS_ h0 v n (y 0 1) a s (ygi y k p t mm r) h' := by
  have W := ev_w E
  have i2 := R.2.2.2.2.2.2.1
  have g2 := i2.2.2
  have gT := i2.1
  have gP := i2.2.1
  have A1 := g_putA (k := y 0 2) (v := k) R.1.1 (rk_5_8 W) (by decide) ⟨by omega, by omega⟩
  have A2 := g_putA (k := y 0 2) (v := p) A1 (rk_5_9 W) (by decide) ⟨by omega, by omega⟩
  have A3 := g_putA (k := y 0 2) (v := t) A2 (rk_5_10 W) (by decide) ⟨by omega, by omega⟩
  have A4 := g_putA (k := y 0 2) (v := mm) A3 (rk_5_11 W) (by decide) ⟨by omega, by omega⟩
  have A5 := g_putA (k := y 0 2) (v := r) A4 (rk_5_12 W) (by decide) ⟨by omega, by omega⟩
  have A6 : G (ag_ h v (y 0 2) k p t mm r) := g_putO (v := y 0 2 + 1) (z := 7) 7 A5 W (by decide +kernel) rfl ⟨by omega, by omega⟩
  have agN : ∀ x j : Int, ¬ (x = v ∧ j = 7) → ¬ (v + 32 ≤ x ∧ x ≤ v + 36 ∧ j = y 0 2) → ag_ h v (y 0 2) k p t mm r x j = h x j := fun x j c1 c2 => by
    unfold ag_
    rw [hs_ne _ c1, hs_ne _ (by omega), hs_ne _ (by omega), hs_ne _ (by omega), hs_ne _ (by omega), hs_ne _ (by omega)]
  have ag7 : ag_ h v (y 0 2) k p t mm r v 7 = y 0 2 + 1 := hs_eq _ _ _ _
  have a2 : ag_ h v (y 0 2) k p t mm r (v + 32) (y 0 2) = k := by
    unfold ag_
    rw [hs_ne _ (by omega), hs_ne _ (by omega), hs_ne _ (by omega), hs_ne _ (by omega), hs_ne _ (by omega), hs_eq]
  have a3 : ag_ h v (y 0 2) k p t mm r (v + 33) (y 0 2) = p := by
    unfold ag_
    rw [hs_ne _ (by omega), hs_ne _ (by omega), hs_ne _ (by omega), hs_ne _ (by omega), hs_eq]
  have a4 : ag_ h v (y 0 2) k p t mm r (v + 34) (y 0 2) = t := by
    unfold ag_
    rw [hs_ne _ (by omega), hs_ne _ (by omega), hs_ne _ (by omega), hs_eq]
  have a5 : ag_ h v (y 0 2) k p t mm r (v + 35) (y 0 2) = mm := by
    unfold ag_
    rw [hs_ne _ (by omega), hs_ne _ (by omega), hs_eq]
  have a6 : ag_ h v (y 0 2) k p t mm r (v + 36) (y 0 2) = r := by
    unfold ag_
    rw [hs_ne _ (by omega), hs_eq]
  rcases e with ⟨ek, e⟩ | ⟨ek, e⟩ | ⟨ek, e⟩
  · subst e
    have g9 := g_putA (k := t) (v := 1) A6 (rk_5_1 W) (by decide) ⟨by omega, by omega⟩
    refine rs_g E.1 R rfl g12 g9 k0 hp ht ht2 hm0 hm1 hm3 hr hr2 (fun x j c1 c2 c3 c4 => by rw [hs_ne _ (by omega)]; exact agN x j c1 c2) (by rw [hs_ne _ (by omega)]; exact ag7) (by rw [hs_ne _ (by omega)]; exact a2) (by rw [hs_ne _ (by omega)]; exact a3) (by rw [hs_ne _ (by omega)]; exact a4) (by rw [hs_ne _ (by omega)]; exact a5) (by rw [hs_ne _ (by omega)]; exact a6) (fun i i0 i1 => ⟨?_, ?_⟩)
    · by_cases c : i = t
      · rw [c, hs_eq]
        exact ⟨fun _ => Or.inr ⟨ek.symm, rfl⟩, fun _ => by omega⟩
      · rw [hs_ne _ (fun z => c z.2), agN _ _ (by omega) (by omega)]
        exact ⟨fun z => Or.inl z, fun z => z.elim id (fun w => absurd w.2 c)⟩
    · rw [hs_ne _ (by omega), agN _ _ (by omega) (by omega)]
      exact ⟨fun z => Or.inl z, fun z => z.elim id (fun w => absurd w.1 (by omega))⟩
  · subst e
    have g9 := g_putA (k := t) (v := 1) A6 (rk_5_2 W) (by decide) ⟨by omega, by omega⟩
    refine rs_g E.1 R rfl g12 g9 k0 hp ht ht2 hm0 hm1 hm3 hr hr2 (fun x j c1 c2 c3 c4 => by rw [hs_ne _ (by omega)]; exact agN x j c1 c2) (by rw [hs_ne _ (by omega)]; exact ag7) (by rw [hs_ne _ (by omega)]; exact a2) (by rw [hs_ne _ (by omega)]; exact a3) (by rw [hs_ne _ (by omega)]; exact a4) (by rw [hs_ne _ (by omega)]; exact a5) (by rw [hs_ne _ (by omega)]; exact a6) (fun i i0 i1 => ⟨?_, ?_⟩)
    · rw [hs_ne _ (by omega), agN _ _ (by omega) (by omega)]
      exact ⟨fun z => Or.inl z, fun z => z.elim id (fun w => absurd w.1 (by omega))⟩
    · by_cases c : i = t
      · rw [c, hs_eq]
        exact ⟨fun _ => Or.inr ⟨ek.symm, rfl⟩, fun _ => by omega⟩
      · rw [hs_ne _ (fun z => c z.2), agN _ _ (by omega) (by omega)]
        exact ⟨fun z => Or.inl z, fun z => z.elim id (fun w => absurd w.2 c)⟩
  · subst e
    refine rs_g E.1 R rfl g12 A6 k0 hp ht ht2 hm0 hm1 hm3 hr hr2 (fun x j c1 c2 c3 c4 => agN x j c1 c2) ag7 a2 a3 a4 a5 a6 (fun i i0 i1 => ⟨?_, ?_⟩)
    · rw [agN _ _ (by omega) (by omega)]
      exact ⟨fun z => Or.inl z, fun z => z.elim id (fun w => absurd w.1 (by omega))⟩
    · rw [agN _ _ (by omega) (by omega)]
      exact ⟨fun z => Or.inl z, fun z => z.elim id (fun w => absurd w.1 (by omega))⟩
theorem if_congr_ic {α : Type} {c c2 : Prop} {x z : α} (h : c ↔ c2) : iC c x z = iC c2 x z := by
  by_cases q : c
  · rw [iC_t q, iC_t (h.mp q)]
  · rw [iC_f q, iC_f (fun w => q (h.mpr w))]
theorem pg_0 (a0 : 0 ≤ a) (a1 : a ≤ n) : pGift 0 T n s a y = iC (¬ y 0 2 < 12) (s, a, y) (iC (tT y T n a = -1 ∨ gk_ y 0 (tT y T n a) ∨ gk_ y 2 (tT y T n a)) (nb_ T n a, 0, y) (iC (¬ okW T n (wn_ T n a) 8) (nb_ T n (wn_ T n a), a, y) (iC (tP y T n (wn_ T n (wn_ T n a)) = -1) (nb_ T n (wn_ T n (wn_ T n a)), a, y) (-1, (wn_ T n (wn_ T n (wn_ T n a))), ygi y 0 (tP y T n (wn_ T n (wn_ T n a))) (tT y T n a) (-1) (-1))))) := by
  have bd := wn_bd (T := T) a1
  have bn := dn_bd (T := T) a1
  have bn2 := dn_bd (T := T) (n := n) (a := wn_ T n a) (by omega)
  unfold pGift
  by_cases c0 : y 0 2 < 12
  · rw [iC_f (nn_i c0), iC_f (nn_i c0)]
    have eT : pgT 0 T n a y = iC (tT y T n a = -1 ∨ gk_ y 0 (tT y T n a) ∨ gk_ y 2 (tT y T n a)) (nb_ T n a, 0, y) (-1, wn_ T n a, fun _ _ => tT y T n a) := by unfold pgT; rw [iC_t (by omega)]; exact if_congr_ic (by simp)
    rw [eT]
    by_cases c1 : tT y T n a = -1 ∨ gk_ y 0 (tT y T n a) ∨ gk_ y 2 (tT y T n a)
    · rw [iC_t c1, iC_t c1]
      exact iC_t (show ¬ nb_ T n a = -1 by omega)
    rw [iC_f c1, iC_f c1, iC_f (nn_i rfl)]
    try dsimp only
    have eM : pgM 0 T n (wn_ T n a) y = (-1, wn_ T n a, fun _ _ => -1) := by unfold pgM; rw [iC_t rfl]
    rw [eM, iC_f (nn_i rfl)]
    try dsimp only
    have eR : ∀ x : Int, pgR 0 T n x y = (-1, x, fun _ _ => -1) := fun x => by unfold pgR; rw [iC_f (by omega)]
    rw [eR, iC_f (c := ¬ (-1, _, fun _ _ => -1).1 = -1) (nn_i rfl)]
  · rw [iC_t c0, iC_t c0]
theorem pg_1 (a0 : 0 ≤ a) (a1 : a ≤ n) : pGift 1 T n s a y = iC (¬ y 0 2 < 12) (s, a, y) (iC (¬ okN T n a 1 9999) (nb_ T n a, 0, y) (iC (¬ okW T n (dn_ T n a) 8) (nb_ T n (dn_ T n a), a, y) (iC (tP y T n (wn_ T n (dn_ T n a)) = -1) (nb_ T n (wn_ T n (dn_ T n a)), a, y) (iC (¬ (pgR 1 T n (wn_ T n (wn_ T n (dn_ T n a))) y).1 = -1) (pgR 1 T n (wn_ T n (wn_ T n (dn_ T n a))) y) (-1, (pgR 1 T n (wn_ T n (wn_ T n (dn_ T n a))) y).2.1, ygi y 1 (tP y T n (wn_ T n (dn_ T n a))) (-1) (dv_ T n a) ((pgR 1 T n (wn_ T n (wn_ T n (dn_ T n a))) y).2.2 0 0)))))) := by
  have bd := wn_bd (T := T) a1
  have bn := dn_bd (T := T) a1
  have bn2 := dn_bd (T := T) (n := n) (a := wn_ T n a) (by omega)
  unfold pGift
  by_cases c0 : y 0 2 < 12
  · rw [iC_f (nn_i c0), iC_f (nn_i c0)]
    have eT : pgT 1 T n a y = (-1, a, fun _ _ => -1) := by unfold pgT; rw [iC_f (by omega)]
    rw [eT, iC_f (nn_i rfl)]
    try dsimp only
    have eM : pgM 1 T n a y = iC (¬ okN T n a 1 9999) (nb_ T n a, 0, y) (-1, dn_ T n a, fun _ _ => dv_ T n a) := by unfold pgM; rw [iC_f (c := (1 : Int) = 0) (by omega), iC_f (c := (1 : Int) = 3) (by omega)]
    rw [eM]
    by_cases c2 : okN T n a 1 9999
    rotate_left
    · rw [iC_t c2, iC_t c2]
      exact iC_t (show ¬ nb_ T n a = -1 by omega)
    rw [iC_f (nn_i c2), iC_f (nn_i c2), iC_f (nn_i rfl)]
    try dsimp only
  · rw [iC_t c0, iC_t c0]
theorem pg_2 (a0 : 0 ≤ a) (a1 : a ≤ n) : pGift 2 T n s a y = iC (¬ y 0 2 < 12) (s, a, y) (iC (tT y T n a = -1 ∨ gk_ y 0 (tT y T n a)) (nb_ T n a, 0, y) (iC (¬ okN T n (wn_ T n a) 1 9999) (nb_ T n (wn_ T n a), 0, y) (iC (¬ okW T n (dn_ T n (wn_ T n a)) 8) (nb_ T n (dn_ T n (wn_ T n a)), a, y) (iC (tP y T n (wn_ T n (dn_ T n (wn_ T n a))) = -1) (nb_ T n (wn_ T n (dn_ T n (wn_ T n a))), a, y) (iC (¬ (pgR 1 T n (wn_ T n (wn_ T n (dn_ T n (wn_ T n a)))) y).1 = -1) (pgR 1 T n (wn_ T n (wn_ T n (dn_ T n (wn_ T n a)))) y) (-1, (pgR 1 T n (wn_ T n (wn_ T n (dn_ T n (wn_ T n a)))) y).2.1, ygi y 2 (tP y T n (wn_ T n (dn_ T n (wn_ T n a)))) (tT y T n a) (dv_ T n (wn_ T n a)) ((pgR 1 T n (wn_ T n (wn_ T n (dn_ T n (wn_ T n a)))) y).2.2 0 0))))))) := by
  have bd := wn_bd (T := T) a1
  have bn := dn_bd (T := T) a1
  have bn2 := dn_bd (T := T) (n := n) (a := wn_ T n a) (by omega)
  unfold pGift
  by_cases c0 : y 0 2 < 12
  · rw [iC_f (nn_i c0), iC_f (nn_i c0)]
    have eT : pgT 2 T n a y = iC (tT y T n a = -1 ∨ gk_ y 0 (tT y T n a)) (nb_ T n a, 0, y) (-1, wn_ T n a, fun _ _ => tT y T n a) := by unfold pgT; rw [iC_t (by omega)]; exact if_congr_ic (by simp)
    rw [eT]
    by_cases c1 : tT y T n a = -1 ∨ gk_ y 0 (tT y T n a)
    · rw [iC_t c1, iC_t c1]
      exact iC_t (show ¬ nb_ T n a = -1 by omega)
    rw [iC_f c1, iC_f c1, iC_f (nn_i rfl)]
    try dsimp only
    have eM : pgM 2 T n (wn_ T n a) y = iC (¬ okN T n (wn_ T n a) 1 9999) (nb_ T n (wn_ T n a), 0, y) (-1, dn_ T n (wn_ T n a), fun _ _ => dv_ T n (wn_ T n a)) := by unfold pgM; rw [iC_f (c := (2 : Int) = 0) (by omega), iC_f (c := (2 : Int) = 3) (by omega)]
    rw [eM]
    by_cases c2 : okN T n (wn_ T n a) 1 9999
    rotate_left
    · rw [iC_t c2, iC_t c2]
      exact iC_t (show ¬ nb_ T n (wn_ T n a) = -1 by omega)
    rw [iC_f (nn_i c2), iC_f (nn_i c2), iC_f (nn_i rfl)]
    try dsimp only
    have eR : ∀ x : Int, pgR 2 T n x y = pgR 1 T n x y := fun x => by unfold pgR; rw [iC_t (c := (2 : Int) = 1 ∨ (2 : Int) = 2) (by omega), iC_t (c := (1 : Int) = 1 ∨ (1 : Int) = 2) (by omega)]
    rw [eR]
  · rw [iC_t c0, iC_t c0]
theorem pg_3 (a0 : 0 ≤ a) (a1 : a ≤ n) : pGift 3 T n s a y = iC (¬ y 0 2 < 12) (s, a, y) (iC (¬ okN T n a 1 9) (nb_ T n a, 0, y) (iC (¬ okW T n (dn_ T n a) 8) (nb_ T n (dn_ T n a), a, y) (iC (tP y T n (wn_ T n (dn_ T n a)) = -1) (nb_ T n (wn_ T n (dn_ T n a)), a, y) (-1, (wn_ T n (wn_ T n (dn_ T n a))), ygi y 3 (tP y T n (wn_ T n (dn_ T n a))) (-1) (dv_ T n a) (-1))))) := by
  have bd := wn_bd (T := T) a1
  have bn := dn_bd (T := T) a1
  have bn2 := dn_bd (T := T) (n := n) (a := wn_ T n a) (by omega)
  unfold pGift
  by_cases c0 : y 0 2 < 12
  · rw [iC_f (nn_i c0), iC_f (nn_i c0)]
    have eT : pgT 3 T n a y = (-1, a, fun _ _ => -1) := by unfold pgT; rw [iC_f (by omega)]
    rw [eT, iC_f (nn_i rfl)]
    try dsimp only
    have eM : pgM 3 T n a y = iC (¬ okN T n a 1 9) (nb_ T n a, 0, y) (-1, dn_ T n a, fun _ _ => dv_ T n a) := by unfold pgM; rw [iC_f (c := (3 : Int) = 0) (by omega), iC_t rfl]
    rw [eM]
    by_cases c2 : okN T n a 1 9
    rotate_left
    · rw [iC_t c2, iC_t c2]
      exact iC_t (show ¬ nb_ T n a = -1 by omega)
    rw [iC_f (nn_i c2), iC_f (nn_i c2), iC_f (nn_i rfl)]
    try dsimp only
    have eR : ∀ x : Int, pgR 3 T n x y = (-1, x, fun _ _ => -1) := fun x => by unfold pgR; rw [iC_f (by omega)]
    rw [eR, iC_f (c := ¬ (-1, _, fun _ _ => -1).1 = -1) (nn_i rfl)]
  · rw [iC_t c0, iC_t c0]
theorem pb_0 : pBody 0 T n s a y = pThing T n s a y := by unfold pBody; rw [iC_t rfl]
theorem pb_1 : pBody 1 T n s a y = pTold 0 99999 T n a y := by unfold pBody; rw [iC_f (by decide), iC_t rfl]
theorem pb_2 : pBody 2 T n s a y = pTold 1 99999 T n a y := by unfold pBody; rw [iC_f (by decide), iC_f (by decide), iC_t rfl]
theorem pb_3 : pBody 3 T n s a y = pPerson 1 T n s a y := by unfold pBody; rw [iC_f (by decide), iC_f (by decide), iC_f (by decide), iC_t rfl]
theorem pb_4 : pBody 4 T n s a y = pPerson 0 T n s a y := by unfold pBody; rw [iC_f (by decide), iC_f (by decide), iC_f (by decide), iC_f (by decide), iC_t rfl]
theorem pb_5 : pBody 5 T n s a y = pIssue T n s a y := by unfold pBody; rw [iC_f (by decide), iC_f (by decide), iC_f (by decide), iC_f (by decide), iC_f (by decide), iC_t rfl]
theorem pb_7 : pBody 7 T n s a y = pGift 0 T n s a y := by unfold pBody; rw [iC_f (by decide), iC_f (by decide), iC_f (by decide), iC_f (by decide), iC_f (by decide), iC_f (by decide), iC_t rfl]
theorem pb_9 : pBody 9 T n s a y = pGift 1 T n s a y := by unfold pBody; rw [iC_f (by decide), iC_f (by decide), iC_f (by decide), iC_f (by decide), iC_f (by decide), iC_f (by decide), iC_f (by decide), iC_t rfl]
theorem pb_11 : pBody 11 T n s a y = pGift 2 T n s a y := by unfold pBody; rw [iC_f (by decide), iC_f (by decide), iC_f (by decide), iC_f (by decide), iC_f (by decide), iC_f (by decide), iC_f (by decide), iC_f (by decide), iC_t rfl]
theorem pb_12 : pBody 12 T n s a y = pGift 3 T n s a y := by unfold pBody; rw [iC_f (by decide), iC_f (by decide), iC_f (by decide), iC_f (by decide), iC_f (by decide), iC_f (by decide), iC_f (by decide), iC_f (by decide), iC_f (by decide), iC_t rfl]
theorem pb_13 : pBody 13 T n s a y = pSold T n a y := by unfold pBody; rw [iC_f (by decide), iC_f (by decide), iC_f (by decide), iC_f (by decide), iC_f (by decide), iC_f (by decide), iC_f (by decide), iC_f (by decide), iC_f (by decide), iC_f (by decide), iC_t rfl]
theorem pb_15 : pBody 15 T n s a y = pChanged T n a y := by unfold pBody; rw [iC_f (by decide), iC_f (by decide), iC_f (by decide), iC_f (by decide), iC_f (by decide), iC_f (by decide), iC_f (by decide), iC_f (by decide), iC_f (by decide), iC_f (by decide), iC_f (by decide), iC_t rfl]
theorem pb_16 : pBody 16 T n s a y = pLost T n a y := by unfold pBody; rw [iC_f (by decide), iC_f (by decide), iC_f (by decide), iC_f (by decide), iC_f (by decide), iC_f (by decide), iC_f (by decide), iC_f (by decide), iC_f (by decide), iC_f (by decide), iC_f (by decide), iC_f (by decide), iC_t rfl]
theorem pb_18 : pBody 18 T n s a y = pDead T n a y := by unfold pBody; rw [iC_f (by decide), iC_f (by decide), iC_f (by decide), iC_f (by decide), iC_f (by decide), iC_f (by decide), iC_f (by decide), iC_f (by decide), iC_f (by decide), iC_f (by decide), iC_f (by decide), iC_f (by decide), iC_f (by decide), iC_t rfl]
theorem pb_19 : pBody 19 T n s a y = pTold 2 240 T n a y := by unfold pBody; rw [iC_f (by decide), iC_f (by decide), iC_f (by decide), iC_f (by decide), iC_f (by decide), iC_f (by decide), iC_f (by decide), iC_f (by decide), iC_f (by decide), iC_f (by decide), iC_f (by decide), iC_f (by decide), iC_f (by decide), iC_f (by decide), iC_t rfl]
theorem pb_20 : pBody 20 T n s a y = pTold 3 99 T n a y := by unfold pBody; rw [iC_f (by decide), iC_f (by decide), iC_f (by decide), iC_f (by decide), iC_f (by decide), iC_f (by decide), iC_f (by decide), iC_f (by decide), iC_f (by decide), iC_f (by decide), iC_f (by decide), iC_f (by decide), iC_f (by decide), iC_f (by decide), iC_f (by decide), iC_t rfl]
theorem pb_21 : pBody 21 T n s a y = pRule T n a y := by unfold pBody; rw [iC_f (by decide), iC_f (by decide), iC_f (by decide), iC_f (by decide), iC_f (by decide), iC_f (by decide), iC_f (by decide), iC_f (by decide), iC_f (by decide), iC_f (by decide), iC_f (by decide), iC_f (by decide), iC_f (by decide), iC_f (by decide), iC_f (by decide), iC_f (by decide), iC_t rfl]
theorem pb_no {j : Nat} (h : j = 6 ∨ j = 8 ∨ j = 10 ∨ j = 14 ∨ j = 17 ∨ j = 22 ∨ j = 23) : pBody j T n s a y = (s, a, y) := by unfold pBody; rw [iC_f (by omega), iC_f (by omega), iC_f (by omega), iC_f (by omega), iC_f (by omega), iC_f (by omega), iC_f (by omega), iC_f (by omega), iC_f (by omega), iC_f (by omega), iC_f (by omega), iC_f (by omega), iC_f (by omega), iC_f (by omega), iC_f (by omega), iC_f (by omega), iC_f (by omega)]
end X4K
