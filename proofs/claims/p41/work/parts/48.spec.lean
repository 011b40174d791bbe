/-! THE HOUSE AS A PICTURE z: z 0 0 things, z 0 1 persons, z 0 2 gifts, how many; z 1 what acts change (61 numbers); of person p z 2 the parent, z 3 a child; of gift g z 5 kind, z 6 person, z 7 thing, z 8 sum, z 9 rank. What is reckoned of it: -/
def lvk (n : Int) (pa dd : Int → Int) : Nat → Int → Int
  | 0, _ => 0
  | k + 1, q => if dd q = 0 then 1 else sumI (fun j => if pa j = q then lvk n pa dd k j else 0) (q + 1) (n - 1 - q).toNat
def zdd (z : PH) (p : Int) : Int := z 1 (32 + p)
def zlv (z : PH) (p : Int) : Int := lvk (z 0 1) (z 2) (zdd z) 12 p
def zhr (z : PH) : Int := sumI (fun j => if ¬ z 3 j = 0 ∧ 0 < zlv z j then 1 else 0) 0 (z 0 1).toNat
def knk (pa ch : Int → Int) : Nat → Int → Int
  | 0, _ => 0
  | k + 1, p => if ¬ ch p = 0 then 1 else if pa p = -1 then 0 else knk pa ch k (pa p)
def zkn (z : PH) (p : Int) : Int := knk (z 2) (z 3) 12 p
def zbr (z : PH) (t : Int) : Int := if z 1 (8 + t) = 0 then z 1 t else z 1 (24 + t)
noncomputable def zlp (z : PH) (g : Int) : Int := b01 (¬ z 1 (44 + g) = 0 ∨ (¬ zdd z (z 6 g) = 0 ∧ zkn z (z 6 g) = 0) ∨ zlv z (z 6 g) = 0)
def zes (z : PH) : Int := z 1 56 + sumI (zbr z) 0 (z 0 0).toNat
def zav (z : PH) : Int := max 0 (zes z - z 1 57)
/-- what is left of a fund by the first k gifts -/
def fzk (kd lp th am br : Int → Int) : Nat → Int → Int
  | 0, t => br t
  | k + 1, t => if kd k = 2 ∧ lp k = 0 ∧ th k = t then fzk kd lp th am br k t - min (am k) (fzk kd lp th am br k t) else fzk kd lp th am br k t
noncomputable def zfl (z : PH) (k : Nat) (t : Int) : Int := fzk (z 5) (zlp z) (z 7) (z 8) (zbr z) k t
noncomputable def zdu (z : PH) (g c : Int) : Int :=
  if ¬ zlp z g = 0 then 0
  else if z 5 g = 0 then (if c = 0 then zbr z (z 7 g) else if c = 4 ∧ z 1 60 = 1 then max 0 (z 1 (z 7 g) - zbr z (z 7 g)) else 0)
  else if z 5 g = 1 then (if c = z 9 g then z 8 g else 0)
  else if z 5 g = 2 then (if c = 0 then min (z 8 g) (zfl z g.toNat (z 7 g)) else if c = z 9 g then z 8 g - min (z 8 g) (zfl z g.toNat (z 7 g)) else 0)
  else 0
def zlate (z : PH) : Int := max 0 (z 1 58 - 12)
noncomputable def zd5 (z : PH) : Int → Int → Int := d5_ (zdu z) (z 0 2) (zav z) (z 1 59) (zlate z)
noncomputable def zrs (z : PH) : Int := lf_ (zd5 z) (z 0 2) (zav z) 6
noncomputable def zct (z : PH) : Int := ct_ (zd5 z) (z 0 2) (zav z) 6
noncomputable def zwr (z : PH) : Int → Int := wr_ (z 5) (zlp z) (z 8)
noncomputable def zp6 (z : PH) (g : Int) : Int := pt_ (zwr z) (z 0 2) (zrs z) g
noncomputable def zgt (z : PH) (g c : Int) : Int := if c = 6 then zp6 z g else gt_ (zd5 z) (z 0 2) (zav z) g c
noncomputable def zde (z : PH) (g c : Int) : Int := if c = 6 then zp6 z g else zd5 z g c
noncomputable def zsw (z : PH) : Int := sumI (zwr z) 0 (z 0 2).toNat
noncomputable def zin (z : PH) : Int := if zsw z = 0 ∧ 0 < zhr z then zrs z else 0
noncomputable def zbo (z : PH) : Int := if zsw z = 0 ∧ ¬ 0 < zhr z then zrs z else 0
noncomputable def ztk (z : PH) (g p : Int) : Int := tg_ (z 0 1) (z 2) (zdd z) (zlv z) (zgt z g) (z 6 g) p
noncomputable def zih (z : PH) (p : Int) : Int := ih_ (z 0 1) (z 2) (zdd z) (z 3) (zlv z) (zhr z) (zin z) p
noncomputable def zta (z : PH) (p : Int) : Int := zih z p + sumI (fun g => ztk z g p) 0 (z 0 2).toNat
/-- what holds of every house -/
def ZF (z : PH) : Prop := (∀ t : Int, 0 ≤ t → t < 8 → (0 ≤ z 1 t ∧ z 1 t ≤ 9999) ∧ (0 ≤ z 1 (8 + t) ∧ z 1 (8 + t) ≤ 2) ∧ (0 ≤ z 1 (16 + t) ∧ z 1 (16 + t) ≤ 9999) ∧ (0 ≤ z 1 (24 + t) ∧ z 1 (24 + t) ≤ 9999)) ∧
  (∀ p : Int, 0 ≤ p → p < 12 → (z 1 (32 + p) = 0 ∨ z 1 (32 + p) = 1) ∧ (z 1 (44 + p) = 0 ∨ z 1 (44 + p) = 1)) ∧
  (0 ≤ z 1 56 ∧ z 1 56 ≤ 99999) ∧ (0 ≤ z 1 57 ∧ z 1 57 ≤ 99999) ∧ (0 ≤ z 1 58 ∧ z 1 58 ≤ 240) ∧ (0 ≤ z 1 59 ∧ z 1 59 ≤ 99) ∧ (0 ≤ z 1 60 ∧ z 1 60 ≤ 1)
def ZW (z : PH) : Prop := (0 ≤ z 0 0 ∧ z 0 0 ≤ 8) ∧ (0 ≤ z 0 1 ∧ z 0 1 ≤ 12) ∧ (0 ≤ z 0 2 ∧ z 0 2 ≤ 12) ∧
  (∀ p : Int, 0 ≤ p → p < z 0 1 → (-1 ≤ z 2 p ∧ z 2 p < p) ∧ (z 3 p = 0 ∨ z 3 p = 1) ∧ (¬ z 3 p = 0 → z 2 p = -1)) ∧
  (∀ g : Int, 0 ≤ g → g < z 0 2 → (0 ≤ z 5 g ∧ z 5 g ≤ 3) ∧ (0 ≤ z 6 g ∧ z 6 g < z 0 1) ∧ (z 5 g = 0 ∨ z 5 g = 2 → 0 ≤ z 7 g ∧ z 7 g < z 0 0) ∧ (z 5 g = 1 ∨ z 5 g = 3 → z 7 g = -1) ∧ (z 5 g = 0 → z 8 g = -1) ∧ (z 5 g = 1 ∨ z 5 g = 2 → 1 ≤ z 8 g ∧ z 8 g ≤ 9999) ∧ (z 5 g = 3 → 1 ≤ z 8 g ∧ z 8 g ≤ 9) ∧ (z 5 g = 1 ∨ z 5 g = 2 → 1 ≤ z 9 g ∧ z 9 g ≤ 4) ∧ (z 5 g = 0 ∨ z 5 g = 3 → z 9 g = -1))
def ZI (z : PH) : Prop := ZF z ∧ ZW z
/-! the numbers' bounds -/
theorem zbr_bd {z : PH} (H : ZF z) {t : Int} (t0 : 0 ≤ t) (t1 : t < 8) : 0 ≤ zbr z t ∧ zbr z t ≤ 9999 := by
  have := H.1 t t0 t1
  unfold zbr
  split <;> omega
theorem fzk_bd {kd lp th am br : Int → Int} {t b : Int} (hb : 0 ≤ br t ∧ br t ≤ b) : ∀ (k : Nat), (∀ g : Int, 0 ≤ g → g < k → kd g = 2 → 0 ≤ am g) → 0 ≤ fzk kd lp th am br k t ∧ fzk kd lp th am br k t ≤ b
  | 0, _ => hb
  | k + 1, h => by
    have ih := fzk_bd (kd := kd) (lp := lp) (th := th) (am := am) hb k (fun g g0 g1 => h g g0 (by omega))
    rw [fzk]
    split
    · rename_i c
      have := h k (by omega) (by omega) c.1
      omega
    · exact ih
theorem zfl_bd {z : PH} (H : ZI z) {t : Int} (t0 : 0 ≤ t) (t1 : t < 8) {k : Nat} (hk : (k : Int) ≤ z 0 2) : 0 ≤ zfl z k t ∧ zfl z k t ≤ 9999 :=
  fzk_bd (zbr_bd H.1 t0 t1) k (fun g g0 g1 e => by have := (H.2.2.2.2.2 g g0 (by omega)).2.2.2.2.2.1 (Or.inr e); omega)
theorem zdu_bd {z : PH} (H : ZI z) {g c : Int} (g0 : 0 ≤ g) (g1 : g < z 0 2) : 0 ≤ zdu z g c ∧ zdu z g c ≤ 9999 := by
  have hg := H.2.2.2.2.2 g g0 g1
  obtain ⟨hk, hp, ht, -, -, ha, -, hr, -⟩ := hg
  have hT := H.2.1
  unfold zdu
  split
  · omega
  split
  · rename_i e
    have t := ht (Or.inl e)
    have b := zbr_bd H.1 t.1 (by omega)
    have o := (H.1.1 _ t.1 (by omega)).1
    split
    · exact b
    split <;> omega
  split
  · rename_i e
    have a := ha (Or.inl e)
    split <;> omega
  split
  · rename_i e
    have t := ht (Or.inr e)
    have a := ha (Or.inr e)
    have b := zfl_bd H t.1 (by omega) (k := g.toNat) (by omega)
    split
    · omega
    split <;> omega
  · omega
theorem zes_bd {z : PH} (H : ZI z) : 0 ≤ zes z ∧ zes z ≤ 179991 := by
  have hT := H.2.1
  have hc := H.1.2.2.1
  have h1 := sumI_nonneg (f := zbr z) (z 0 0).toNat 0 (fun i i0 i1 => (zbr_bd H.1 i0 (by omega)).1)
  have h2 := sumI_le (f := zbr z) (b := 9999) (z 0 0).toNat 0 (fun i i0 i1 => (zbr_bd H.1 i0 (by omega)).2)
  unfold zes
  omega
theorem zav_bd {z : PH} (H : ZI z) : 0 ≤ zav z ∧ zav z ≤ 179991 := by
  have h1 := zes_bd H
  have h2 := H.1.2.2.2.1
  unfold zav
  omega
theorem zlate_bd {z : PH} (H : ZF z) : 0 ≤ zlate z ∧ zlate z ≤ 228 := by
  have h2 := H.2.2.2.2.1
  unfold zlate
  omega
theorem zd5_bd {z : PH} (H : ZI z) {g c : Int} (g0 : 0 ≤ g) (g1 : g < z 0 2) : 0 ≤ zd5 z g c ∧ zd5 z g c ≤ 1000000 := by
  unfold zd5
  by_cases e : c = 5
  · subst e
    rw [d5_5]
    have hl := zlate_bd H.1
    have hr := H.1.2.2.2.2.2.1
    have := it_bd (D := zdu z) (n := z 0 2) (zav_bd H).1 hr.1 hr.2 hl.1 hl.2 (fun g k a b k0 k1 => zdu_bd H a b) g g0 g1
    exact ⟨this.2.2.1, this.2.2.2⟩
  · unfold d5_
    rw [if_neg e]
    have := zdu_bd H (c := c) g0 g1
    omega
theorem zrs_bd {z : PH} (H : ZI z) : 0 ≤ zrs z ∧ zrs z ≤ 179991 := by
  have := lf_bd (D := zd5 z) (n := z 0 2) (zav_bd H).1 6 (fun g c a b _ _ => (zd5_bd H a b).1)
  have h2 := zav_bd H
  unfold zrs
  omega
theorem zwr_bd {z : PH} (H : ZI z) {g : Int} (g0 : 0 ≤ g) (g1 : g < z 0 2) : 0 ≤ zwr z g ∧ zwr z g ≤ 9 := by
  have hg := (H.2.2.2.2.2 g g0 g1).2.2.2.2.2.2.1
  unfold zwr wr_
  split
  · rename_i c
    have := hg c.1
    omega
  · omega
theorem zgt_bd {z : PH} (H : ZI z) {g c : Int} (g0 : 0 ≤ g) (g1 : g < z 0 2) (c0 : 0 ≤ c) : 0 ≤ zgt z g c ∧ zgt z g c ≤ 179991 := by
  unfold zgt
  split
  · have h1 := zrs_bd H
    have := pt_le (W := zwr z) (n := z 0 2) (m := zrs z) (fun g a b => (zwr_bd H a b).1) h1.1 g g0 g1
    unfold zp6
    omega
  · have h1 := zav_bd H
    have := gt_bd (D := zd5 z) (n := z 0 2) (c := c) h1.1 c0 (fun g k a b _ _ => (zd5_bd H a b).1) g g0 g1
    omega
/-! the same in what counts -/
theorem lvk_liv {n : Int} {pa dd l : Int → Int} (h : ∀ q : Int, 0 ≤ q → q < n → l q = if dd q = 0 then 1 else sumI (fun j => if pa j = q then l j else 0) (q + 1) (n - 1 - q).toNat) : ∀ (k : Nat) (q : Int), 0 ≤ q → q < n → n - q ≤ k → l q = lvk n pa dd k q
  | 0, q, q0, q1, hk => by omega
  | k + 1, q, q0, q1, hk => by
    rw [h q q0 q1, lvk]
    split
    · rfl
    · refine sumI_congr _ _ fun j j0 j1 => ?_
      split
      · exact lvk_liv h k j (by omega) (by omega) (by omega)
      · rfl
theorem lvk_congr {n n' : Int} {pa pa' dd dd' : Int → Int} (en : n = n') (h : ∀ q : Int, 0 ≤ q → q < n → pa q = pa' q ∧ dd q = dd' q) : ∀ (k : Nat) (q : Int), 0 ≤ q → q < n → lvk n pa dd k q = lvk n' pa' dd' k q
  | 0, _, _, _ => rfl
  | k + 1, q, q0, q1 => by
    rw [lvk, lvk, (h q q0 q1).2, ← en]
    split
    · rfl
    · refine sumI_congr _ _ fun j j0 j1 => ?_
      rw [(h j (by omega) (by omega)).1, en, ← lvk_congr en h k j (by omega) (by omega), en]
theorem ci_congr {pa pa' lv lv' : Int → Int} {q a : Int} {m : Nat} (h : ∀ p : Int, a ≤ p → p < a + m → pa p = pa' p ∧ lv p = lv' p) : ci__ pa lv q a m = ci__ pa' lv' q a m := sumI_congr _ _ (fun p p0 p1 => by rw [(h p p0 p1).1, (h p p0 p1).2])
theorem ds_congr2 {n : Int} {pa pa' lv lv' P : Int → Int} {q : Int} (q0 : 0 ≤ q) (q1 : q < n) (h : ∀ p : Int, 0 ≤ p → p < n → pa p = pa' p ∧ lv p = lv' p) : ∀ p : Int, 0 ≤ p → p < n → ds_ n pa lv P q p = ds_ n pa' lv' P q p := by
  intro p p0 p1
  unfold ds_
  rw [(h p p0 p1).1, (h p p0 p1).2]
  by_cases c : q < p ∧ p < n ∧ pa' p = q ∧ 0 < lv' p
  · rw [if_pos c, if_pos c, ci_congr (pa' := pa') (lv' := lv') (fun y a b => h y (by omega) (by omega)), ci_congr (pa' := pa') (lv' := lv') (m := (p - q - 1).toNat) (fun y a b => h y (by omega) (by omega))]
  · rw [if_neg c, if_neg c]
theorem ps_congr2 {n : Int} {pa pa' dd dd' lv lv' : Int → Int} (h : ∀ p : Int, 0 ≤ p → p < n → pa p = pa' p ∧ dd p = dd' p ∧ lv p = lv' p) : ∀ (m : Nat) (q : Int) (P P' : Int → Int), 0 ≤ q → q + m ≤ n → (∀ p : Int, 0 ≤ p → p < n → P p = P' p) → ∀ p : Int, 0 ≤ p → p < n → ps_ n pa dd lv m q P p = ps_ n pa' dd' lv' m q P' p
  | 0, _, _, _, _, _, e, p, p0, p1 => e p p0 p1
  | m + 1, q, P, P', q0, q1, e, p, p0, p1 => by
    rw [ps_, ps_]
    refine ps_congr2 h m (q + 1) _ _ (by omega) (by omega) (fun y y0 y1 => ?_) p p0 p1
    rw [(h q q0 (by omega)).2.1, e q q0 (by omega)]
    split
    · rw [ds_congr q0 (by omega) e y y0 y1]
      exact ds_congr2 q0 (by omega) (fun p a b => ⟨(h p a b).1, (h p a b).2.2⟩) y y0 y1
    · exact e y y0 y1
theorem pv_congr2 {n n' : Int} {pa pa' dd dd' lv lv' : Int → Int} {m x : Int} (en : n = n') (x0 : 0 ≤ x) (x1 : x < n) (h : ∀ p : Int, 0 ≤ p → p < n → pa p = pa' p ∧ dd p = dd' p ∧ lv p = lv' p) : ∀ p : Int, 0 ≤ p → p < n → pv_ n pa dd lv m x p = pv_ n' pa' dd' lv' m x p := by
  intro p p0 p1
  subst en
  unfold pv_
  rw [(h p p0 p1).2.1]
  split
  · exact ps_congr2 h _ x _ _ x0 (by omega) (fun _ _ _ => rfl) p p0 p1
  · rfl
theorem tg_congr {n n' : Int} {pa pa' dd dd' lv lv' G G' : Int → Int} {x x' : Int} (en : n = n') (ex : x = x') (x0 : 0 ≤ x) (x1 : x < n) (h : ∀ p : Int, 0 ≤ p → p < n → pa p = pa' p ∧ dd p = dd' p ∧ lv p = lv' p) (hG : ∀ c : Int, 0 ≤ c → c < 7 → G c = G' c) : ∀ p : Int, 0 ≤ p → p < n → tg_ n pa dd lv G x p = tg_ n' pa' dd' lv' G' x' p := by
  intro p p0 p1
  subst ex
  unfold tg_
  refine sumI_congr _ _ fun c c0 c1 => ?_
  rw [hG c c0 (by omega), pv_congr2 en x0 x1 h p p0 p1]
theorem hp_congr {ch ch' lv lv' : Int → Int} {H H' I I' x : Int} (eH : H = H') (eI : I = I') (h : ∀ p : Int, 0 ≤ p → p < x → ch p = ch' p ∧ lv p = lv' p) : hp_ ch lv H I x = hp_ ch' lv' H' I' x := by
  subst eH
  subst eI
  unfold hp_
  rw [sumI_congr (g := fun j => if ¬ ch' j = 0 ∧ 0 < lv' j then 1 else 0) x.toNat 0 (fun j j0 j1 => by rw [(h j j0 (by omega)).1, (h j j0 (by omega)).2])]
theorem ih_congr {n n' : Int} {pa pa' dd dd' ch ch' lv lv' : Int → Int} {H H' I I' : Int} (en : n = n') (eH : H = H') (eI : I = I') (h : ∀ p : Int, 0 ≤ p → p < n → pa p = pa' p ∧ dd p = dd' p ∧ lv p = lv' p ∧ ch p = ch' p) : ∀ p : Int, 0 ≤ p → p < n → ih_ n pa dd ch lv H I p = ih_ n' pa' dd' ch' lv' H' I' p := by
  intro p p0 p1
  unfold ih_
  rw [← en]
  refine sumI_congr _ _ fun x x0 x1 => ?_
  rw [(h x x0 (by omega)).2.2.1, (h x x0 (by omega)).2.2.2, hp_congr eH eI (fun y a b => ⟨(h y a (by omega)).2.2.2, (h y a (by omega)).2.2.1⟩), pv_congr2 rfl x0 (by omega) (fun y a b => ⟨(h y a b).1, (h y a b).2.1, (h y a b).2.2.1⟩) p p0 p1]
theorem d5_congr {D D' : Int → Int → Int} {n av rt late : Int} (h : ∀ g k : Int, 0 ≤ g → g < n → 0 ≤ k → k ≤ 4 → D g k = D' g k) : ∀ g c : Int, 0 ≤ g → g < n → 0 ≤ c → c ≤ 5 → d5_ D n av rt late g c = d5_ D' n av rt late g c := by
  intro g c a b c0 c1
  unfold d5_
  split
  · exact it_congr h g a b
  · exact h g c a b c0 (by omega)
/-! the class's heap shows the picture -/
/-- its will w, its facts f -/
def PR_ (h : PH) (w f : Int) (z : PH) : Prop := (h (w + 1) 1 = z 0 0 ∧ h (w + 14) 1 = z 0 1 ∧ h w 7 = z 0 2) ∧ (∀ k : Int, 0 ≤ k → k < 61 → h (f + 1) k = z 1 k) ∧
  (∀ p : Int, 0 ≤ p → p < z 0 1 → h (w + 29) p = z 2 p ∧ h (w + 30) p = z 3 p ∧ h (w + 31) p = zkn z p) ∧
  (∀ g : Int, 0 ≤ g → g < z 0 2 → h (w + 32) g = z 5 g ∧ h (w + 33) g = z 6 g ∧ h (w + 34) g = z 7 g ∧ h (w + 35) g = z 8 g ∧ h (w + 36) g = z 9 g)
/-- a reckoning r holds what is reckoned -/
def RD_ (h : PH) (r : Int) (z : PH) : Prop := (∀ p : Int, 0 ≤ p → p < z 0 1 → h (r + 1) p = zlv z p) ∧ (∀ g : Int, 0 ≤ g → g < z 0 2 → h (r + 2) g = zlp z g) ∧ (∀ t : Int, 0 ≤ t → t < z 0 0 → h (r + 3) t = zfl z (z 0 2).toNat t) ∧
  (∀ g c : Int, 0 ≤ g → g < z 0 2 → 0 ≤ c → c < 7 → h (r + 4 + 1 + g) c = zde z g c ∧ h (r + 17 + 1 + g) c = zgt z g c) ∧ (∀ g p : Int, 0 ≤ g → g < z 0 2 → 0 ≤ p → p < z 0 1 → h (r + 30 + 1 + g) p = ztk z g p ∧ 0 ≤ ztk z g p ∧ ztk z g p ≤ 7000000) ∧
  (∀ p : Int, 0 ≤ p → p < z 0 1 → h (r + 43) p = zih z p ∧ 0 ≤ zih z p ∧ zih z p ≤ 12000000) ∧ h r 7 = zes z ∧ h r 8 = zav z ∧ h r 9 = zrs z ∧ h r 10 = zin z ∧ h r 11 = zbo z ∧ h r 12 = zct z ∧ h r 13 = zhr z
theorem PR_to {h h' : PH} {w f : Int} {z : PH} (H : PR_ h w f z) (e1 : ∀ x y : Int, w ≤ x → x ≤ w + 36 → h' x y = h x y) (e2 : ∀ y : Int, h' (f + 1) y = h (f + 1) y) : PR_ h' w f z := by
  obtain ⟨⟨a1, a2, a3⟩, a4, a5, a6⟩ := H
  refine ⟨⟨by rw [e1 _ _ (by omega) (by omega)]; exact a1, by rw [e1 _ _ (by omega) (by omega)]; exact a2, by rw [e1 _ _ (by omega) (by omega)]; exact a3⟩, fun k k0 k1 => by rw [e2]; exact a4 k k0 k1, fun p p0 p1 => ?_, fun g g0 g1 => ?_⟩
  · rw [e1 _ _ (by omega) (by omega), e1 _ _ (by omega) (by omega), e1 _ _ (by omega) (by omega)]
    exact a5 p p0 p1
  · rw [e1 _ _ (by omega) (by omega), e1 _ _ (by omega) (by omega), e1 _ _ (by omega) (by omega), e1 _ _ (by omega) (by omega), e1 _ _ (by omega) (by omega)]
    exact a6 g g0 g1
