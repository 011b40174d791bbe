/-! THE PURE MACHINE: a value is a kind and a number, the heap a function of an address and a place; what the kit says of one instruction is said of these, once -/
/-- 0 an int, 1 a long, 2 a reference (its number), 9 nothing -/
abbrev PV : Type := Nat × Int
abbrev PH : Type := Int → Int → Int
/-- what a method's end owes: where it returns, where it throws -/
abbrev PQ : Type := (Option PV → Nat → PH → Prop) × (String → Nat → PH → Prop)
def inI (z : Int) : Prop := -2147483648 ≤ z ∧ z < 2147483648
def inL (z : Int) : Prop := -9223372036854775808 ≤ z ∧ z < 9223372036854775808
theorem inI_to {z : Int} (h : inI z) : (Int32.ofInt z).toInt = z := Int32.toInt_ofInt_of_le (by have := h.1; omega) (by have := h.2; omega)
theorem inL_to {z : Int} (h : inL z) : (Int64.ofInt z).toInt = z := Int64.toInt_ofInt_of_le (by have := h.1; omega) (by have := h.2; omega)
theorem pI_lt {x y : Int} (hx : inI x) (hy : inI y) : Int32.ofInt x < Int32.ofInt y ↔ x < y := by
  rw [Int32.lt_iff_toInt_lt, inI_to hx, inI_to hy]
theorem pI_le {x y : Int} (hx : inI x) (hy : inI y) : Int32.ofInt x ≤ Int32.ofInt y ↔ x ≤ y := by
  rw [Int32.le_iff_toInt_le, inI_to hx, inI_to hy]
theorem pI_eq {x y : Int} (hx : inI x) (hy : inI y) : Int32.ofInt x = Int32.ofInt y ↔ x = y := by
  rw [← Int32.toInt_inj, inI_to hx, inI_to hy]
theorem pI_cl {i : Int} (h0 : 0 ≤ i) (h1 : i < 2147483648) : (Int32.ofInt i).toNatClampNeg = i.toNat := Int32.toNatClampNeg_ofInt_of_le (by omega) (by omega)
theorem pI_in {i : Int} {n : Nat} (h0 : 0 ≤ i) (h1 : i < n) (hn : n < 2147483648) : vp_in (Int32.ofInt i) n := by
  rw [vp_in_iff, inI_to ⟨by omega, by omega⟩]
  exact ⟨h0, h1⟩
def inI0 : inI 0 := ⟨by decide, by decide⟩
/-- addresses: where the text's array is, and a number's reference -/
abbrev AD : Type := Nat × (Int → Nat)
def rf_ (ad : AD) (z : Int) : Option Nat := if z < 0 then none else some (ad.2 z)
/-- 0 an int, 1 a long, 2 a reference, 4 null, 5 the text's array, 6 a reference by its own address -/
def rv_ (ad : AD) (v : PV) : Value := match v.1 with
  | 0 => .int (Int32.ofInt v.2)
  | 1 => .long (Int64.ofInt v.2)
  | 4 => .null
  | 5 => .ref ad.1
  | 6 => .ref v.2.toNat
  | _ => .ref (ad.2 v.2)
theorem rv_cat (ad : AD) (v : PV) : (rv_ ad v).category = if v.1 = 1 then 2 else 1 := by
  obtain ⟨t, z⟩ := v
  match t with
  | 0 => rfl
  | 1 => rfl
  | 2 => rfl
  | 3 => rfl
  | 4 => rfl
  | 5 => rfl
  | 6 => rfl
  | n + 7 => simp [rv_, Value.category]
/-- no text's array among them -/
def nk5_ (L : List PV) : Bool := L.all fun v => !(Nat.beq v.1 5)
theorem rv_same {ad ad' : AD} (e : ad'.2 = ad.2) {v : PV} (h : Nat.beq v.1 5 = false) : rv_ ad' v = rv_ ad v := by
  obtain ⟨t, z⟩ := v
  match t, h with
  | 0, _ => rfl
  | 1, _ => rfl
  | 2, _ => simp [rv_, e]
  | 3, _ => simp [rv_, e]
  | 4, _ => rfl
  | 6, _ => rfl
  | n + 7, _ => simp [rv_, e]
theorem rv_map {ad ad' : AD} (e : ad'.2 = ad.2) : ∀ {L : List PV}, nk5_ L = true → L.map (rv_ ad') = L.map (rv_ ad)
  | [], _ => rfl
  | v :: t, h => by
    have h1 := List.all_eq_true.mp h v List.mem_cons_self
    have h2 : nk5_ t = true := List.all_eq_true.mpr fun x hx => List.all_eq_true.mp h x (List.mem_cons_of_mem _ hx)
    rw [List.map_cons, List.map_cons, rv_map e h2, rv_same e (by simpa using h1)]
/-- locals as they stand: by their places, 9 left out -/
def as_ (ad : AD) : Nat → List PV → List (Nat × Value)
  | _, [] => []
  | i, v :: t => if v.1 = 9 then as_ ad (i + 1) t else (i, rv_ ad v) :: as_ ad (i + 1) t
theorem as_mem (ad : AD) (q : Nat × Value) : ∀ (L : List PV) (k : Nat), q ∈ as_ ad k L ↔ ∃ (i : Nat) (v : PV), L[i]? = some v ∧ v.1 ≠ 9 ∧ q = (k + i, rv_ ad v) := by
  intro L
  induction L with
  | nil => intro k; simp [as_]
  | cons w t ih =>
    intro k
    have tail : (∃ (i : Nat) (v : PV), t[i]? = some v ∧ v.1 ≠ 9 ∧ q = (k + 1 + i, rv_ ad v)) ↔ (∃ (i : Nat) (v : PV), (w :: t)[i + 1]? = some v ∧ v.1 ≠ 9 ∧ q = (k + (i + 1), rv_ ad v)) := by
      constructor
      · rintro ⟨i, v, h1, h2, h3⟩
        exact ⟨i, v, by simpa using h1, h2, by rw [h3, Nat.add_assoc, Nat.add_comm 1 i]⟩
      · rintro ⟨i, v, h1, h2, h3⟩
        exact ⟨i, v, by simpa using h1, h2, by rw [h3, Nat.add_assoc, Nat.add_comm 1 i]⟩
    by_cases h9 : w.1 = 9
    · rw [as_, if_pos h9, ih, tail]
      constructor
      · rintro ⟨i, v, h⟩; exact ⟨i + 1, v, h⟩
      · rintro ⟨i, v, h1, h2, h3⟩
        cases i with
        | zero => simp at h1; rw [← h1] at h2; exact absurd h9 h2
        | succ i => exact ⟨i, v, h1, h2, h3⟩
    · rw [as_, if_neg h9, List.mem_cons, ih, tail]
      constructor
      · rintro (h | ⟨i, v, h⟩)
        · exact ⟨0, w, rfl, h9, by simpa using h⟩
        · exact ⟨i + 1, v, h⟩
      · rintro ⟨i, v, h1, h2, h3⟩
        cases i with
        | zero => simp at h1; subst h1; exact Or.inl (by simpa using h3)
        | succ i => exact Or.inr ⟨i, v, h1, h2, h3⟩
theorem as_get {ad : AD} {ls : Array Slot} {n i : Nat} {L : List PV} {v : PV} (h : lv_has ls n (as_ ad 0 L)) (hi : L[i]? = some v) (h9 : v.1 ≠ 9) : ls[i]? = some (.val (rv_ ad v)) := by
  have := h.2.2 (0 + i, rv_ ad v) ((as_mem ad _ L 0).mpr ⟨i, v, hi, h9, rfl⟩)
  simpa using this
/-- a value of one place is put into the locals -/
theorem as_set {ad : AD} {ls : Array Slot} {n i : Nat} {L : List PV} {v : PV} (hc : v.1 ≠ 1) (hb : Nat.beq (L.getD (i - 1) (0, 0)).1 1 = false) (h : lv_has ls n ((i, rv_ ad v) :: (as_ ad 0 L).filter (fun q => !(q.1 == i) && !(q.1 + 1 == i && q.2.category == 2)))) : lv_has ls n (as_ ad 0 (L.set i v)) := by
  refine ⟨h.1, h.2.1, fun q hq => h.2.2 q ?_⟩
  obtain ⟨j, w, h1, h2, rfl⟩ := (as_mem ad q _ 0).mp hq
  rw [Nat.zero_add] at *
  by_cases e : j = i
  · subst e
    have hl : j < L.length := by
      have := (List.getElem?_eq_some_iff.mp h1).1
      simpa using this
    rw [List.getElem?_set_self hl] at h1
    cases h1
    exact List.mem_cons_self
  · rw [List.getElem?_set_ne (fun z => e z.symm)] at h1
    refine List.mem_cons_of_mem _ (List.mem_filter.mpr ⟨(as_mem ad _ L 0).mpr ⟨j, w, h1, h2, by rw [Nat.zero_add]⟩, ?_⟩)
    have e1 : (j == i) = false := by simpa using e
    simp only [e1, Bool.not_false, Bool.true_and, Bool.not_eq_true', Bool.and_eq_false_iff]
    by_cases e2 : j + 1 = i
    · right
      have hj : i - 1 = j := by omega
      rw [hj, List.getD_eq_getElem?_getD, h1, Option.getD_some] at hb
      have hb' : w.1 ≠ 1 := fun z => by rw [z] at hb; cases hb
      rw [rv_cat, if_neg hb']
      rfl
    · left
      simpa using e2
/-- a long is put into the locals -/
theorem as_set2 {ad : AD} {ls : Array Slot} {n i : Nat} {L : List PV} {z : Int} (hb : Nat.beq (L.getD (i - 1) (0, 0)).1 1 = false) (h : lv_has ls n ((i, rv_ ad (1, z)) :: (as_ ad 0 L).filter (fun q => !(q.1 == i) && (!(q.1 == i + 1) && !(q.1 + 1 == i && q.2.category == 2))))) : lv_has ls n (as_ ad 0 ((L.set i (1, z)).set (i + 1) (9, 0))) := by
  refine ⟨h.1, h.2.1, fun q hq => h.2.2 q ?_⟩
  obtain ⟨j, w, h1, h2, rfl⟩ := (as_mem ad q _ 0).mp hq
  rw [Nat.zero_add] at *
  by_cases e0 : j = i + 1
  · subst e0
    have hl : i + 1 < (L.set i (1, z)).length := by
      have := (List.getElem?_eq_some_iff.mp h1).1
      simpa using this
    rw [List.getElem?_set_self hl] at h1
    cases h1
    exact absurd rfl h2
  rw [List.getElem?_set_ne (fun z => e0 z.symm)] at h1
  by_cases e : j = i
  · subst e
    have hl : j < L.length := by
      have := (List.getElem?_eq_some_iff.mp h1).1
      simpa using this
    rw [List.getElem?_set_self hl] at h1
    cases h1
    exact List.mem_cons_self
  · rw [List.getElem?_set_ne (fun z => e z.symm)] at h1
    refine List.mem_cons_of_mem _ (List.mem_filter.mpr ⟨(as_mem ad _ L 0).mpr ⟨j, w, h1, h2, by rw [Nat.zero_add]⟩, ?_⟩)
    have e1 : (j == i) = false := by simpa using e
    have e3 : (j == i + 1) = false := by simpa using e0
    simp only [e1, e3, Bool.not_false, Bool.true_and, Bool.not_eq_true', Bool.and_eq_false_iff]
    by_cases e2 : j + 1 = i
    · right
      have hj : i - 1 = j := by omega
      rw [hj, List.getD_eq_getElem?_getD, h1, Option.getD_some] at hb
      have hb' : w.1 ≠ 1 := fun z => by rw [z] at hb; cases hb
      rw [rv_cat, if_neg hb']
      rfl
    · left
      simpa using e2
/-- fewer locals are known -/
def fg_ : List PV → List PV → Prop
  | [], [] => True
  | v :: L, w :: L' => (w.1 = 9 ∨ v = w) ∧ fg_ L L'
  | _, _ => False
theorem fg_get : ∀ (L L' : List PV), fg_ L L' → ∀ (i : Nat) (w : PV), L'[i]? = some w → w.1 ≠ 9 → L[i]? = some w := by
  intro L
  induction L with
  | nil => intro L' h i w hw; cases L' with
    | nil => simp at hw
    | cons a t => exact absurd h (by simp [fg_])
  | cons v t ih => intro L' h i w hw h9; cases L' with
    | nil => simp at hw
    | cons a t' =>
      obtain ⟨h1, h2⟩ := h
      cases i with
      | zero =>
        simp at hw
        subst hw
        rcases h1 with h1 | h1
        · exact absurd h1 h9
        · rw [h1]; rfl
      | succ i => simpa using ih t' h2 i w (by simpa using hw) h9
theorem as_fg {ad : AD} {ls : Array Slot} {n : Nat} {L L' : List PV} (hf : fg_ L L') (h : lv_has ls n (as_ ad 0 L)) : lv_has ls n (as_ ad 0 L') := by
  refine ⟨h.1, h.2.1, fun q hq => h.2.2 q ?_⟩
  obtain ⟨j, w, h1, h2, rfl⟩ := (as_mem ad q _ 0).mp hq
  exact (as_mem ad _ L 0).mpr ⟨j, w, fg_get L L' hf j w h1 h2, h2, rfl⟩
/-- the locals with which a method begins -/
def en_ : List PV → List PV
  | [] => []
  | v :: t => if v.1 = 1 then v :: (9, 0) :: en_ t else v :: en_ t
theorem en_mem (ad : AD) (q : Nat × Value) : ∀ (l : List PV) (k : Nat), q ∈ as_ ad k (en_ l) → q ∈ lv_args k (l.map (rv_ ad)) := by
  intro l
  induction l with
  | nil => intro k h; simp [en_, as_] at h
  | cons v t ih =>
    intro k h
    simp only [List.map_cons, lv_args, rv_cat]
    by_cases e : v.1 = 1
    · rw [en_, if_pos e] at h
      have e9 : ¬ v.1 = 9 := by omega
      rw [as_, if_neg e9, List.mem_cons, as_, if_pos rfl] at h
      rw [if_pos e, if_pos rfl, List.mem_cons]
      exact h.imp id (ih _)
    · rw [en_, if_neg e] at h
      rw [if_neg e, if_neg (by decide), List.mem_cons]
      rw [as_] at h
      by_cases e9 : v.1 = 9
      · rw [if_pos e9] at h
        exact Or.inr (ih _ h)
      · rw [if_neg e9, List.mem_cons] at h
        exact h.imp id (ih _)
theorem as_app (ad : AD) (q : Nat × Value) (n : Nat) : ∀ (l : List PV) (k : Nat), q ∈ as_ ad k (l ++ List.replicate n (9, 0)) → q ∈ as_ ad k l := by
  intro l k h
  obtain ⟨i, v, h1, h2, h3⟩ := (as_mem ad q _ k).mp h
  refine (as_mem ad q _ k).mpr ⟨i, v, ?_, h2, h3⟩
  by_cases hl : i < l.length
  · rwa [List.getElem?_append_left hl] at h1
  · rw [List.getElem?_append_right (by omega)] at h1
    have := List.eq_of_mem_replicate (List.mem_of_getElem? h1)
    rw [this] at h2
    exact absurd rfl h2
/-! the run's world -/
/-- what a field holds -/
def fv_ (ad : AD) (k : Nat) (z : Int) : Value := match k with
  | 0 => .int (Int32.ofInt z)
  | 1 => .long (Int64.ofInt z)
  | _ => va_rf (rf_ ad z)
/-- an address held in a cell's places from k on downwards: as many ones as it counts -/
noncomputable def ua_ (k : Int) (f : Int → Int) : Nat := @dite Nat (∃ q : Nat, ∀ b : Nat, f (k - b) = if b < q then 1 else 0) (Classical.propDecidable _) (fun h => Classical.choose h) (fun _ => 0)
theorem ua_of {k : Int} {f : Int → Int} {q : Nat} (h : ∀ b : Nat, f (k - b) = if b < q then 1 else 0) : ua_ k f = q := by
  have hx : ∃ q : Nat, ∀ b : Nat, f (k - b) = if b < q then 1 else 0 := ⟨q, h⟩
  have h2 : ua_ k f = Classical.choose hx := by unfold ua_; exact dif_pos hx
  have h3 := Classical.choose_spec hx
  rw [h2]
  generalize Classical.choose hx = w at h3
  have a1 := h w
  have a2 := h3 w
  have b1 := h q
  have b2 := h3 q
  rw [a2, if_neg (by omega)] at a1
  rw [b1, if_neg (by omega)] at b2
  by_cases c : w < q
  · rw [if_pos c] at a1
    cases a1
  · by_cases c2 : q < w
    · rw [if_pos c2] at b2
      cases b2
    · omega
/-- a cell that stands where it says itself -/
noncomputable def aa_ (ad : AD) (f : Int → Int) (i : Nat) : Nat := if i < 199 then ad.2 i else ua_ (-9) f
/-- the cell of a shape that holds f -/
noncomputable def ce_ (ad : AD) (dA : Nat → ClassId) (s : Nat × Nat) (f : Int → Int) : va_E := match s.1 with
  | 0 => .inl (dA 0, (s.2, .inl fun k => Int32.ofInt (f k)))
  | 1 => .inl (dA 1, (s.2, .inl fun k => Int32.ofInt (f k)))
  | 2 => .inl (dA 2, (s.2, .inl fun k => Int32.ofInt (f k)))
  | 3 => .inl (dA 3, (s.2, .inr (.inl fun k => Int64.ofInt (f k))))
  | 4 => .inl (dA 4, (s.2, .inr (.inr (.inr (.inr fun k => rf_ ad (f k))))))
  | 5 => .inl (dA 5, (s.2, .inr (.inr (.inr (.inr fun k => rf_ ad (f k))))))
  | 14 => .inr (8, [.ref ad.1, .int 0, .int (Int32.ofInt (f 1)), .int (Int32.ofInt (f 0))])
  | 16 => .inr (10, [va_rf (if f 20 = 0 then none else some (ua_ 0 fun y => f (1000 - y))), .int (Int32.ofInt (f 1)), .int (Int32.ofInt (f 2)), .int (Int32.ofInt (f 3))])
  | 17 => .inl (dA 1, ((f (-1)).toNat, .inl fun k => Int32.ofInt (f k)))
  | 18 => .inl (dA 0, (5, .inl fun k => Int32.ofInt (f k)))
  | n + 6 => .inr (n, (List.range s.2).map fun k => fv_ ad (fk_ (fty_ n k)) (f k))
abbrev aty_ : List FieldType := [.int, .byte, .boolean, .long, .array .int, .array .byte]
def tys_ (dA : Nat → ClassId) : List (ClassId × FieldType) := [(dA 0, .int), (dA 1, .byte), (dA 2, .boolean), (dA 3, .long), (dA 4, .array .int), (dA 5, .array .byte)]
/-- the text that is written: its place among the cells; its array stands outside -/
abbrev iSB : Nat := 198
noncomputable def wl_ (ad : AD) (dA : Nat → ClassId) (N : Nat) (h : PH) : va_W :=
  (List.range N).map (fun i : Nat => (aa_ ad (h i) i, ce_ ad dA (sh_ i) (h i))) ++ (if iSB < N then [(ad.1, .inl (dA 1, ((h iSB (-1)).toNat, .inl fun k => Int32.ofInt (h iSB (10 + k)))))] else [])
theorem wl_getA {ad : AD} {dA : Nat → ClassId} {N : Nat} {h : PH} {i : Nat} (hi : i < N) : (wl_ ad dA N h)[i]? = some (aa_ ad (h i) i, ce_ ad dA (sh_ i) (h i)) := by
  unfold wl_
  rw [List.getElem?_append_left (by simpa using hi), List.getElem?_map, List.getElem?_range hi]
  rfl
theorem wl_get {ad : AD} {dA : Nat → ClassId} {N : Nat} {h : PH} {i : Nat} (hi : i < N) (h9 : i < 199) : (wl_ ad dA N h)[i]? = some (ad.2 i, ce_ ad dA (sh_ i) (h i)) := by
  have e := wl_getA (ad := ad) (dA := dA) (h := h) hi
  rw [aa_, if_pos h9] at e
  exact e
/-- what is no cell that says itself where it stands -/
theorem sh_low {n : Nat} (h : (sh_ n).1 ≤ 15) : n < 199 := by
  by_cases c : n < 202
  · have h1 : ∀ n, n < 202 → (sh_ n).1 ≤ 15 → n < 199 := by decide +kernel
    exact h1 n c h
  · have e : sh_ n = (99, 0) := by
      unfold sh_
      rw [List.getD_eq_getElem?_getD, List.getElem?_eq_none (by show 202 ≤ n; omega)]
      rfl
    rw [e] at h
    exact absurd h (by decide)
theorem sh_lowO {n ci : Nat} (hc : ci ≤ 9) (h : sh_ n = (ci + 6, uN_ ci)) : n < 199 := sh_low (by rw [h]; show ci + 6 ≤ 15; omega)
/-- one place of the heap is written -/
def hs_ (h : PH) (a k v : Int) : PH := fun x y => if x = a then (if y = k then v else h x y) else h x y
theorem hs_eq (h : PH) (a k v : Int) : hs_ h a k v a k = v := by simp [hs_]
theorem hs_ne (h : PH) {a k v x y : Int} (e : ¬ (x = a ∧ y = k)) : hs_ h a k v x y = h x y := by
  unfold hs_
  by_cases e1 : x = a
  · by_cases e2 : y = k
    · exact absurd ⟨e1, e2⟩ e
    · rw [if_pos e1, if_neg e2]
  · rw [if_neg e1]
theorem wl_set {ad : AD} {dA : Nat → ClassId} {N : Nat} {h : PH} {i : Nat} {k v : Int} (hi : i < N) (h9 : i < 199) (hsb : i ≠ iSB) : (wl_ ad dA N h).set i (ad.2 i, ce_ ad dA (sh_ i) (hs_ h i k v i)) = wl_ ad dA N (hs_ h i k v) := by
  refine List.ext_getElem? fun j => ?_
  by_cases e : j = i
  · subst e
    rw [List.getElem?_set_self (by have := wl_get (ad := ad) (dA := dA) (h := h) hi h9; exact (List.getElem?_eq_some_iff.mp this).1), wl_get hi h9]
  · rw [List.getElem?_set_ne (fun z => e z.symm)]
    have e1 : ∀ x : Int, x ≠ (i : Int) → hs_ h i k v x = h x := fun x hx => funext fun y => hs_ne h (fun z => hx z.1)
    have e2 : hs_ h i k v iSB = h iSB := e1 _ (fun z => hsb (by exact_mod_cast z.symm))
    unfold wl_
    rw [e2]
    by_cases hl : j < N
    · rw [List.getElem?_append_left (by simpa using hl), List.getElem?_append_left (by simpa using hl), List.getElem?_map, List.getElem?_map, List.getElem?_range hl]
      simp only [Option.map_some]
      rw [e1 j (fun z => e (by exact_mod_cast z))]
    · rw [List.getElem?_append_right (by simp; omega), List.getElem?_append_right (by simp; omega)]
      simp
/-- the cells that are ours -/
abbrev own_ (s0 : State) : Nat → Prop := fun q => s0.heap.size ≤ q
/-- the world: N cells are made, they hold h; all that was there before is as it was -/
def Wd_ (s0 : State) (D : va_G) (dA : Nat → ClassId) (ad : AD) (N : Nat) (h : PH) (H : Heap) : Prop :=
  (va_P D ucl (wl_ ad dA N h) H ∧ va_D (own_ s0) (wl_ ad dA N h)) ∧ s0.heap.size ≤ H.size ∧ (∀ q : Nat, q < s0.heap.size → H[q]? = s0.heap[q]?) ∧ (N < 199 → H.size = s0.heap.size + N + (if iSB < N then 1 else 0))
/-- what holds of the launch, of the classes, of constants, of addresses -/
def Gl_ (l : Launch) (s0 : State) (D : va_G) (dA : Nat → ClassId) (a2 : Int → Nat) : Prop :=
  l.stackTraces = false ∧ va_K D ucl (tys_ dA) s0 ∧ Kx_ (own_ s0) s0 s0.heap a2 ∧ ∀ i : Nat, i < 199 → a2 i = s0.heap.size + i + (if iSB < i then 1 else 0)
/-- what a method may say of itself beside its code -/
abbrev EP : Type := State → (Int → Nat) → Method → Code → Prop
/-- no handler -/
abbrev E0_ : EP := fun _ _ _ c => ∀ x ∈ c.exceptionTable.toList, False
def Cx_ (E : EP) (a2 : Int → Nat) (M : PM) (d bc bs : Nat) (s0 : State) (p : Program) (R : Room) (s : State) (m : MethodId) (args : Array Value) (meth : Method) (c : Code) (cells slots mc ms : Nat) : Prop :=
  p.tables.exec = Jvm.exec ∧ c.code = M.2.1 ∧ c.maxLocals = M.2.2.1 ∧ s.vm.findClass M.1 = some m.cls ∧ (∀ w ∈ TBL, w.before args s = true) ∧ meth.sig.returnType = M.2.2.2 ∧ meth.locks = false ∧
  E s0 a2 meth c ∧ d ≤ R.frames ∧ 37 * d ≤ R.locals ∧ mc ≤ R.cells ∧ ms ≤ R.slots ∧ cells + bc ≤ mc ∧ slots + bs ≤ ms ∧ s0.WarmedH s.vm ∧ s0.heap.size ≤ s.heap.size ∧ ∀ q : Nat, q < s0.heap.size → s.heap[q]? = s0.heap[q]?
def Qc_ (s0 : State) (D : va_G) (dA : Nat → ClassId) (ad : AD) (P : Option PV → Nat → PH → Prop) : Array Value → State → Outcome → State → Prop := fun _ st o t =>
  (∃ (ad' : AD) (r : Option PV) (N : Nat) (h : PH), ad'.2 = ad.2 ∧ o = .returned (r.map (rv_ ad')) ∧ P r N h ∧ Wd_ s0 D dA ad' N h t.heap) ∧ va_F (own_ s0) st t
def XC_ (s0 : State) (D : va_G) (dA : Nat → ClassId) (ad : AD) (P : String → Nat → PH → Prop) : String → State → State → Prop := fun E st t =>
  (∃ (ad' : AD) (N : Nat) (h : PH), ad'.2 = ad.2 ∧ P E N h ∧ Wd_ s0 D dA ad' N h t.heap) ∧ va_F (own_ s0) st t
/-- the machine, at pc of M with these locals, stack and heap, comes to an end that owes Q; d: how deep it may call; bc, bs: how many cells and places it may still make -/
def SE_ (E : EP) (M : PM) (d bc bs : Nat) (Q : PQ) (pc : Nat) (L st : List PV) (N : Nat) (h : PH) : Prop :=
  ∀ (l : Launch) (s0 : State) (D : va_G) (dA : Nat → ClassId) (ad : AD) (p : Program) (e : Env) (R : Room) (s : State) (m : MethodId) (args : Array Value) (below : List Frame) (meth : Method) (c : Code) (H : Heap) (locs : List Loc) (cells slots mc ms : Nat) (ls : Array Slot),
    Gl_ l s0 D dA ad.2 → Cx_ E ad.2 M d bc bs s0 p R s m args meth c cells slots mc ms → Wd_ s0 D dA ad N h H ∧ va_S (own_ s0) s.heap H locs → lv_has ls M.2.2.1 (as_ ad 0 L) →
    W p l e R s m args below meth c H locs cells slots (vx_MQ below (Qc_ s0 D dA ad Q.1) (XC_ s0 D dA ad Q.2) args s mc ms (own_ s0)) (F0 m pc ls (st.map (rv_ ad)))
abbrev S_ (M : PM) (d bc bs : Nat) (Q : PQ) (pc : Nat) (L st : List PV) (N : Nat) (h : PH) : Prop := SE_ E0_ M d bc bs Q pc L st N h
/-- method y, called with these arguments, comes to an end that owes Q; its code's word -/
def CW_ (w : Cond) (y : MethodName) (d bc bs : Nat) (as : List PV) (N : Nat) (h : PH) (Q : PQ) : Prop :=
  ∀ (l : Launch) (s0 : State) (D : va_G) (dA : Nat → ClassId) (ad : AD), Gl_ l s0 D dA ad.2 →
    vx_Met l y (w :: TBL) { frames := d, locals := 37 * d, cells := bc, slots := bs } (va_Pc (as.map (rv_ ad)) (fun U => s0.WarmedH U.vm ∧ Wd_ s0 D dA ad N h U.heap)) (Qc_ s0 D dA ad Q.1) (XC_ s0 D dA ad Q.2) bc bs (own_ s0)
abbrev Cl_ (y : MethodName) (M : PM) (d bc bs : Nat) (as : List PV) (N : Nat) (h : PH) (Q : PQ) : Prop := CW_ (.code y M.2.1 M.2.2.1 M.2.2.2) y d bc bs as N h Q
theorem lg_en (ad : AD) : ∀ as : List PV, (lg_sl (as.map (rv_ ad))).length = (en_ as).length
  | [] => rfl
  | v :: t => by
    have ih : (List.flatMap (fun v => if v.category = 2 then [Slot.val v, Slot.second] else [Slot.val v]) (List.map (rv_ ad) t)).length = (en_ t).length := lg_en ad t
    simp only [List.map_cons, lg_sl, List.flatMap_cons, List.length_append, rv_cat, en_]
    rw [ih]
    by_cases e : v.1 = 1
    · simp [e]; omega
    · simp [e]; omega
set_option maxHeartbeats 1000000 in
/-- a method is entered: what its frame is -/
theorem s_body {E : EP} {w : Cond} {y : MethodName} {M : PM} {d bc bs : Nat} {as L : List PV} {N : Nat} {h : PH} {Q : PQ} (hc : y.cls = M.1) (hn : (en_ as).length ≤ M.2.2.1) (hL : en_ as ++ List.replicate (M.2.2.1 - (en_ as).length) (9, 0) = L) (k : SE_ E M d bc bs Q 0 L [] N h)
    {l : Launch} {s0 : State} {D : va_G} {dA : Nat → ClassId} {ad : AD} (hG : Gl_ l s0 D dA ad.2) {p : Program} {e : Env} {s : State} {m : MethodId} {args : Array Value} {below : List Frame} {meth : Method} {c : Code} {s₁ : State}
    (B : BodyLoose p l y (headSpec (w :: TBL) { frames := d, locals := 37 * d, cells := bc, slots := bs }) M.2.1 M.2.2.1 M.2.2.2 e s m args below meth c s₁) (hml : c.maxLocals = M.2.2.1) (hE : E s0 ad.2 meth c) (hpc : va_Pc (as.map (rv_ ad)) (fun U => s0.WarmedH U.vm ∧ Wd_ s0 D dA ad N h U.heap) args s) :
    W p l e (headSpec (w :: TBL) { frames := d, locals := 37 * d, cells := bc, slots := bs }).room s m args below meth c s.heap [] 0 0 (vx_MQ below (Qc_ s0 D dA ad Q.1) (XC_ s0 D dA ad Q.2) args s bc bs (own_ s0)) (entryFrame m args M.2.2.1) := by
  obtain ⟨rfl, hal, hW⟩ := hpc
  have hts : ∀ w ∈ TBL, w.before ((as.map (rv_ ad)).toArray) s = true := fun w' hw => atoms_spec (ws := w :: TBL) B.pre w' (List.mem_cons_of_mem _ hw)
  have hl := lv_entry (as.map (rv_ ad)) (n := M.2.2.1) (by rw [lg_en]; exact hn)
  rw [lg_entry_eq]
  refine k l s0 D dA ad p e _ s m _ below meth c s.heap [] 0 0 bc bs _ hG ⟨B.exec, B.bytes, hml, ?_, hts, B.returns, B.notSynchronized, hE, Nat.le_refl _, Nat.le_refl _, Nat.le_refl _, Nat.le_refl _, by omega, by omega, hal, hW.2.1, hW.2.2.1⟩ ⟨hW, va_S.rf⟩ ?_
  · rw [← hc]
    exact findClass_of_methodNamed B.named
  · refine ⟨hl.1, hl.2.1, fun q hq => hl.2.2 q ?_⟩
    rw [← hL] at hq
    exact en_mem ad q as 0 (as_app ad q _ _ 0 hq)
/-- a method without handlers is entered -/
theorem s_enter {y : MethodName} {M : PM} {d bc bs : Nat} {as L : List PV} {N : Nat} {h : PH} {Q : PQ} (hp : plainName y.cls = true) (hc : y.cls = M.1) (hn : (en_ as).length ≤ M.2.2.1) (hL : en_ as ++ List.replicate (M.2.2.1 - (en_ as).length) (9, 0) = L)
    (k : S_ M d bc bs Q 0 L [] N h) : Cl_ y M d bc bs as N h Q := by
  intro l s0 D dA ad hG
  refine vx_ofW hp rfl ?_
  intro p e s m args below meth c s₁ B hml hex hpc
  exact s_body hc hn hL k hG B hml hex hpc
/-- a constructor is entered -/
abbrev E1_ : EP := fun _ _ meth c => (∀ x ∈ c.exceptionTable.toList, False) ∧ meth.name = "<init>"
theorem s_enterI {y : MethodName} {M : PM} {d bc bs : Nat} {as L : List PV} {N : Nat} {h : PH} {Q : PQ} (hp : plainName y.cls = true) (hc : y.cls = M.1) (hi : y.name = "<init>") (hn : (en_ as).length ≤ M.2.2.1) (hL : en_ as ++ List.replicate (M.2.2.1 - (en_ as).length) (9, 0) = L)
    (k : SE_ E1_ M d bc bs Q 0 L [] N h) : Cl_ y M d bc bs as N h Q := by
  intro l s0 D dA ad hG
  refine vx_ofW hp rfl ?_
  intro p e s m args below meth c s₁ B hml hex hpc
  exact s_body hc hn hL k hG B hml ⟨hex, hi ▸ (name_of_methodNamed B.named B.method).1⟩ hpc
/-- a method with handlers is entered -/
abbrev EH_ (y : MethodName) (M : PM) (hh : List (Nat × Nat × Nat × Nat)) : EP := fun _ _ _ c => c.exceptionTable.toList.map (fun x => (x.startPc, x.endPc, x.handlerPc, x.catchType)) = hh
section CXA
variable {E : EP} {a2 : Int → Nat} {M : PM} {d bc bs : Nat} {s0 : State} {p : Program} {R : Room} {s : State} {m : MethodId} {args : Array Value} {meth : Method} {c : Code} {cells slots mc ms : Nat}
theorem cx_ex (hC : Cx_ E a2 M d bc bs s0 p R s m args meth c cells slots mc ms) : p.tables.exec = Jvm.exec := hC.1
theorem cx_cb (hC : Cx_ E a2 M d bc bs s0 p R s m args meth c cells slots mc ms) : c.code = M.2.1 := hC.2.1
theorem cx_ml (hC : Cx_ E a2 M d bc bs s0 p R s m args meth c cells slots mc ms) : c.maxLocals = M.2.2.1 := hC.2.2.1
theorem cx_own (hC : Cx_ E a2 M d bc bs s0 p R s m args meth c cells slots mc ms) : s.vm.findClass M.1 = some m.cls := hC.2.2.2.1
theorem cx_ts (hC : Cx_ E a2 M d bc bs s0 p R s m args meth c cells slots mc ms) : ∀ w ∈ TBL, w.before args s = true := hC.2.2.2.2.1
theorem cx_rt (hC : Cx_ E a2 M d bc bs s0 p R s m args meth c cells slots mc ms) : meth.sig.returnType = M.2.2.2 := hC.2.2.2.2.2.1
theorem cx_lk (hC : Cx_ E a2 M d bc bs s0 p R s m args meth c cells slots mc ms) : meth.locks = false := hC.2.2.2.2.2.2.1
theorem cx_e (hC : Cx_ E a2 M d bc bs s0 p R s m args meth c cells slots mc ms) : E s0 a2 meth c := hC.2.2.2.2.2.2.2.1
theorem cx_fr (hC : Cx_ E a2 M d bc bs s0 p R s m args meth c cells slots mc ms) : d ≤ R.frames := hC.2.2.2.2.2.2.2.2.1
theorem cx_lo (hC : Cx_ E a2 M d bc bs s0 p R s m args meth c cells slots mc ms) : 37 * d ≤ R.locals := hC.2.2.2.2.2.2.2.2.2.1
theorem cx_rc (hC : Cx_ E a2 M d bc bs s0 p R s m args meth c cells slots mc ms) : mc ≤ R.cells := hC.2.2.2.2.2.2.2.2.2.2.1
theorem cx_rs (hC : Cx_ E a2 M d bc bs s0 p R s m args meth c cells slots mc ms) : ms ≤ R.slots := hC.2.2.2.2.2.2.2.2.2.2.2.1
theorem cx_bc (hC : Cx_ E a2 M d bc bs s0 p R s m args meth c cells slots mc ms) : cells + bc ≤ mc := hC.2.2.2.2.2.2.2.2.2.2.2.2.1
theorem cx_bs (hC : Cx_ E a2 M d bc bs s0 p R s m args meth c cells slots mc ms) : slots + bs ≤ ms := hC.2.2.2.2.2.2.2.2.2.2.2.2.2.1
theorem cx_wm (hC : Cx_ E a2 M d bc bs s0 p R s m args meth c cells slots mc ms) : s0.WarmedH s.vm := hC.2.2.2.2.2.2.2.2.2.2.2.2.2.2.1
theorem cx_sz (hC : Cx_ E a2 M d bc bs s0 p R s m args meth c cells slots mc ms) : s0.heap.size ≤ s.heap.size := hC.2.2.2.2.2.2.2.2.2.2.2.2.2.2.2.1
theorem cx_ag (hC : Cx_ E a2 M d bc bs s0 p R s m args meth c cells slots mc ms) : ∀ q : Nat, q < s0.heap.size → s.heap[q]? = s0.heap[q]? := hC.2.2.2.2.2.2.2.2.2.2.2.2.2.2.2.2
theorem cx_al (hC : Cx_ E a2 M d bc bs s0 p R s m args meth c cells slots mc ms) : s0.vm.Alike s.vm := (cx_wm hC).alike
end CXA
