/-! what calls answer, of the picture -/
noncomputable def zad (z : PH) (g : Int) : Int := if ¬ z 5 g = 0 ∨ z 1 (8 + z 7 g) = 0 then 0 else if zbr z (z 7 g) = 0 then 2 else 1
def zname (z : PH) (isP i k : Int) : Int := if isP = 0 then (if 0 ≤ k ∧ k < z 10 i then z (20 + i) k else -1) else (if 0 ≤ k ∧ k < z 11 i then z (30 + i) k else -1)
def zthing (z : PH) (t v : Int) : Int := if v = 0 then z 1 t else if v = 1 then z 1 (8 + t) else if v = 2 then (if z 1 (8 + t) = 1 then z 1 (16 + t) else -1) else if v = 3 then (if z 1 (8 + t) = 0 then -1 else zbr z t) else zbr z t
def zperson (z : PH) (p v : Int) : Int := if v = 0 then z 2 p else if v = 1 then (if z 3 p = 0 then 0 else 1) else if v = 2 then (if zkn z p = 0 then 0 else 1) else if v = 3 then (if z 1 (32 + p) = 0 then 0 else 1) else if v = 4 then (if zlv z p = 0 then 1 else 0) else zlv z p
noncomputable def zgift (z : PH) (g v : Int) : Int := if v = 0 then z 5 g else if v = 1 then z 6 g else if v = 2 then z 7 g else if v = 3 then z 8 g else if v = 4 then z 9 g else if v = 5 then (if zlp z g = 0 then 0 else 1) else zad z g
noncomputable def zestate (z : PH) (v : Int) : Int := if v = 0 then zes z else if v = 1 then zav z else if v = 2 then max 0 (z 1 57 - zes z) else if v = 3 then zrs z else if v = 4 then zin z else if v = 5 then zbo z else if v = 6 then zav z - zrs z else zct z
noncomputable def zclassed (z : PH) (c v : Int) : Int := if v = 0 then sumI (fun g => zde z g c) 0 (z 0 2).toNat else if v = 1 then sumI (fun g => zgt z g c) 0 (z 0 2).toNat else sumI (fun g => if 0 < zde z g c then 1 else 0) 0 (z 0 2).toNat
noncomputable def zgets (z : PH) (g c : Int) : Int := if c = -1 then sumI (zgt z g) 0 7 else zgt z g c
noncomputable def zdut (z : PH) (c : Int) : Int := sumI (fun k => sumI (fun g => zde z g k) 0 (z 0 2).toNat) 0 (c + 1).toNat
noncomputable def zleast (z : PH) (c : Int) : Int := if sumI (fun g => zde z g c) 0 (z 0 2).toNat = 0 then -1 else max 0 (zes z - zdut z c + 1)
noncomputable def zneed (z : PH) (c : Int) : Int := if zdut z c = 0 then 0 else if 99999 < max 0 (zdut z c + z 1 57 - (zes z - z 1 56)) then -1 else max 0 (zdut z c + z 1 57 - (zes z - z 1 56))
noncomputable def zpart (z : PH) (g : Int) : Int := if sumI (zde z g) 0 5 = 0 then -1 else (sumI (zgt z g) 0 5 * 1000).tdiv (sumI (zde z g) 0 5)
noncomputable def zitself (z : PH) (g : Int) : Int := b01 (zlp z g = 0 ∧ z 1 (8 + z 7 g) = 0 ∧ ¬ zct z = 0)
noncomputable def ztaken (z : PH) (p v : Int) : Int := if v = 0 then zta z p else if v = 1 then zih z p else sumI (fun g => if z 6 g = p then 0 else ztk z g p) 0 (z 0 2).toNat
noncomputable def zstock (z : PH) (p k : Int) : Int := kt_ (fun y => sk_ (z 2) (zdd z) p (z 0 1 - p).toNat p (fun y => if y = p then 1 else 0) y = 1 ∧ zdd z y = 0) (z 0 1 - p).toNat p 0 k
noncomputable def zheir (z : PH) (k : Int) : Int := kt_ (fun p => ¬ z 3 p = 0 ∧ 0 < zlv z p) (z 0 1).toNat 0 0 k
/-- how many take more than p, or as much and stand ahead -/
noncomputable def zah (z : PH) (p : Int) : Int := sumI (fun q => if zta z p < zta z q ∨ (zta z q = zta z p ∧ q < p) then 1 else 0) 0 (z 0 1).toNat
/-- the first of m from p on for which f is k; -1 where there is none -/
noncomputable def fs_ (f : Int → Int) (k : Int) : Nat → Int → Int
  | 0, _ => -1
  | m + 1, p => if f p = k then p else fs_ f k m (p + 1)
noncomputable def zranked (z : PH) (k : Int) : Int := fs_ (zah z) k (z 0 1).toNat 0
def zliving (z : PH) : Int := sumI (fun p => if z 1 (32 + p) = 0 then 1 else 0) 0 (z 0 1).toNat
def zheld (z : PH) : Int := sumI (fun t => if z 1 (8 + t) = 0 then 1 else 0) 0 (z 0 0).toNat
def zren (z : PH) : Int := sumI (fun g => if z 1 (44 + g) = 0 then 0 else 1) 0 (z 0 2).toNat
noncomputable def zlapsed (z : PH) : Int := sumI (fun g => if zlp z g = 0 then 0 else 1) 0 (z 0 2).toNat
noncomputable def zcount (z : PH) (v : Int) : Int := if v = 0 then z 0 0 else if v = 1 then z 0 1 else if v = 2 then z 0 2 else if 3 ≤ v ∧ v ≤ 7 then z 1 (53 + v) else if v = 8 then zliving z else if v = 9 then zheld z else if v = 10 then zlapsed z else if v = 11 then zhr z else if v = 12 then z 53 0 else if v = 13 then z 54 0 else if v = 14 then zren z else -1
/-! bounds of what is taken -/
theorem ztk_bd {z : PH} (I : ZI z) {g p : Int} (g0 : 0 ≤ g) (g1 : g < z 0 2) (p0 : 0 ≤ p) (p1 : p < z 0 1) : 0 ≤ ztk z g p ∧ ztk z g p ≤ 7000000 := by
  have hx := (I.2.2.2.2.2 g g0 g1).2.1
  have h1 : ∀ c : Int, 0 ≤ c → c < 0 + (7 : Nat) → 0 ≤ (if 0 < zgt z g c then pv_ (z 0 1) (z 2) (zdd z) (zlv z) (zgt z g c) (z 6 g) p else 0) ∧ (if 0 < zgt z g c then pv_ (z 0 1) (z 2) (zdd z) (zlv z) (zgt z g c) (z 6 g) p else 0) ≤ 1000000 := fun c c0 c1 => by
    have hb := zgt_bd I (c := c) g0 g1 c0
    split
    · have := pv_bd (n := z 0 1) (pa := z 2) (dd := zdd z) (lv := zlv z) (m := zgt z g c) (x := z 6 g) (by omega) hx.1 hx.2 p p0 p1
      omega
    · omega
  have s0 := sumI_nonneg (f := fun c => if 0 < zgt z g c then pv_ (z 0 1) (z 2) (zdd z) (zlv z) (zgt z g c) (z 6 g) p else 0) 7 0 (fun c c0 c1 => (h1 c c0 c1).1)
  have s1 := sumI_le (f := fun c => if 0 < zgt z g c then pv_ (z 0 1) (z 2) (zdd z) (zlv z) (zgt z g c) (z 6 g) p else 0) (b := 1000000) 7 0 (fun c c0 c1 => (h1 c c0 c1).2)
  unfold ztk tg_
  omega
theorem zin_bd {z : PH} (I : ZI z) : 0 ≤ zin z ∧ zin z ≤ 179991 := by
  have := zrs_bd I
  unfold zin
  split <;> omega
theorem zih_bd {z : PH} (I : ZI z) {p : Int} (p0 : 0 ≤ p) (p1 : p < z 0 1) : 0 ≤ zih z p ∧ zih z p ≤ 12000000 := by
  have hi := zin_bd I
  have hP := I.2.2.1
  have h1 : ∀ x : Int, 0 ≤ x → x < 0 + ((z 0 1).toNat : Nat) → 0 ≤ (if ¬ z 3 x = 0 ∧ 0 < zlv z x then pv_ (z 0 1) (z 2) (zdd z) (zlv z) (hp_ (z 3) (zlv z) (zhr z) (zin z) x) x p else 0) ∧ (if ¬ z 3 x = 0 ∧ 0 < zlv z x then pv_ (z 0 1) (z 2) (zdd z) (zlv z) (hp_ (z 3) (zlv z) (zhr z) (zin z) x) x p else 0) ≤ 1000000 := fun x x0 x1 => by
    split
    · rename_i c
      have hr : 1 ≤ zhr z := by
        have := sumI_ge (f := fun j => if ¬ z 3 j = 0 ∧ 0 < zlv z j then (1 : Int) else 0) (z 0 1).toNat 0 (fun j _ _ => by split <;> omega) x x0 x1
        rw [if_pos c] at this
        exact this
      have hb := hp_bd (ch := z 3) (lv := zlv z) (H := zhr z) (I := zin z) (x := x) hr hi.1
      have := pv_bd (n := z 0 1) (pa := z 2) (dd := zdd z) (lv := zlv z) (m := hp_ (z 3) (zlv z) (zhr z) (zin z) x) (x := x) hb.1 x0 (by omega) p p0 p1
      omega
    · omega
  have s0 := sumI_nonneg (f := fun x => if ¬ z 3 x = 0 ∧ 0 < zlv z x then pv_ (z 0 1) (z 2) (zdd z) (zlv z) (hp_ (z 3) (zlv z) (zhr z) (zin z) x) x p else 0) (z 0 1).toNat 0 (fun c c0 c1 => (h1 c c0 c1).1)
  have s1 := sumI_le (f := fun x => if ¬ z 3 x = 0 ∧ 0 < zlv z x then pv_ (z 0 1) (z 2) (zdd z) (zlv z) (hp_ (z 3) (zlv z) (zhr z) (zin z) x) x p else 0) (b := 1000000) (z 0 1).toNat 0 (fun c c0 c1 => (h1 c c0 c1).2)
  unfold zih ih_
  omega
theorem zta_bd {z : PH} (I : ZI z) {p : Int} (p0 : 0 ≤ p) (p1 : p < z 0 1) : 0 ≤ zta z p ∧ zta z p ≤ 96000000 := by
  have h1 := zih_bd I p0 p1
  have hN := I.2.2.2.1
  have s0 := sumI_nonneg (f := fun g => ztk z g p) (z 0 2).toNat 0 (fun g g0 g1 => (ztk_bd I g0 (by omega) p0 p1).1)
  have s1 := sumI_le (f := fun g => ztk z g p) (b := 7000000) (z 0 2).toNat 0 (fun g g0 g1 => (ztk_bd I g0 (by omega) p0 p1).2)
  unfold zta
  omega
theorem tk_of {h : PH} {r w : Int} {z : PH} (R : RD_ h r z) (en : h w 7 = z 0 2) {p : Int} (p0 : 0 ≤ p) (p1 : p < z 0 1) : tk_ h r w p = zta z p := by
  unfold tk_ zta
  rw [(R.2.2.2.2.2.1 p p0 p1).1, en, sumI_congr (g := fun g => ztk z g p) _ _ (fun g g0 g1 => (R.2.2.2.2.1 g p g0 (by omega) p0 p1).1)]
theorem zsd_bd {z : PH} (I : ZI z) {c : Int} (c0 : 0 ≤ c) (c1 : c ≤ 4) : 0 ≤ sumI (fun g => zde z g c) 0 (z 0 2).toNat ∧ sumI (fun g => zde z g c) 0 (z 0 2).toNat ≤ 12000000 := by
  have hN := I.2.2.2.1
  have hb : ∀ g : Int, 0 ≤ g → g < 0 + ((z 0 2).toNat : Nat) → 0 ≤ zde z g c ∧ zde z g c ≤ 1000000 := fun g g0 g1 => by
    unfold zde
    rw [if_neg (by omega)]
    exact zd5_bd I g0 (by omega)
  have s0 := sumI_nonneg (f := fun g => zde z g c) (z 0 2).toNat 0 (fun g g0 g1 => (hb g g0 g1).1)
  have s1 := sumI_le (f := fun g => zde z g c) (b := 1000000) (z 0 2).toNat 0 (fun g g0 g1 => (hb g g0 g1).2)
  omega
theorem zdut_bd {z : PH} (I : ZI z) {c : Int} (c0 : 0 ≤ c) (c1 : c ≤ 4) : 0 ≤ zdut z c ∧ zdut z c ≤ 60000000 := by
  have s0 := sumI_nonneg (f := fun k => sumI (fun g => zde z g k) 0 (z 0 2).toNat) (c + 1).toNat 0 (fun k k0 k1 => (zsd_bd I k0 (by omega)).1)
  have s1 := sumI_le (f := fun k => sumI (fun g => zde z g k) 0 (z 0 2).toNat) (b := 12000000) (c + 1).toNat 0 (fun k k0 k1 => (zsd_bd I k0 (by omega)).2)
  unfold zdut
  omega
theorem zd5s_bd {z : PH} (I : ZI z) {g : Int} (g0 : 0 ≤ g) (g1 : g < z 0 2) : (0 ≤ sumI (zde z g) 0 5 ∧ sumI (zde z g) 0 5 ≤ 49995) ∧ 0 ≤ sumI (zgt z g) 0 5 ∧ sumI (zgt z g) 0 5 ≤ 899955 := by
  have hb : ∀ c : Int, 0 ≤ c → c < 0 + (5 : Nat) → 0 ≤ zde z g c ∧ zde z g c ≤ 9999 := fun c c0 c1 => by
    unfold zde zd5
    rw [if_neg (by omega), d5_lo (by omega)]
    exact zdu_bd I g0 g1
  have s0 := sumI_nonneg (f := zde z g) 5 0 (fun c c0 c1 => (hb c c0 c1).1)
  have s1 := sumI_le (f := zde z g) (b := 9999) 5 0 (fun c c0 c1 => (hb c c0 c1).2)
  have t0 := sumI_nonneg (f := zgt z g) 5 0 (fun c c0 c1 => (zgt_bd I g0 g1 c0).1)
  have t1 := sumI_le (f := zgt z g) (b := 179991) 5 0 (fun c c0 c1 => (zgt_bd I g0 g1 c0).2)
  omega
theorem sk_congr3 {pa pa' dd dd' : Int → Int} {x n : Int} (x0 : 0 ≤ x) (hp : ∀ p : Int, 0 ≤ p → p < n → pa p = pa' p ∧ dd p = dd' p ∧ pa' p < p) : ∀ (m : Nat) (p : Int) (S : Int → Int), 0 ≤ p → p + m ≤ n → ∀ y : Int, 0 ≤ y → y < n → sk_ pa dd x m p S y = sk_ pa' dd' x m p S y
  | 0, _, _, _, _, y, y0, y1 => rfl
  | m + 1, p, S, q0, q1, y, y0, y1 => by
    rw [sk_, sk_]
    have h1 := hp p q0 (by omega)
    rw [h1.1]
    by_cases c : x ≤ pa' p
    · rw [(hp (pa' p) (by omega) (by omega)).2.1]
      exact sk_congr3 x0 hp m (p + 1) _ (by omega) (by omega) y y0 y1
    · rw [if_neg (fun q => c q.1), if_neg (fun q => c q.1)]
      exact sk_congr3 x0 hp m (p + 1) _ (by omega) (by omega) y y0 y1
