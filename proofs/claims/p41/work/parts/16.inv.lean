/-! what every heap of a run keeps: the fixed references; all numbers are ints -/
def G (h : PH) : Prop := RF h ∧ ∀ a k : Int, inI (h a k)
theorem hi_put {h : PH} {a k v : Int} (hI : ∀ a k : Int, inI (h a k)) (hv : inI v) : ∀ x y : Int, inI (hs_ h a k v x y) := by
  intro x y
  unfold hs_
  split
  · split
    · exact hv
    · exact hI x y
  · exact hI x y
theorem g_putA {h : PH} {a k v : Int} {t n : Nat} (hG : G h) (A : isA nN a t n) (ht : t ≤ 3) (hv : inI v) : G (hs_ h a k v) := by
  refine ⟨rf_putA hG.1 ?_, hi_put hG.2 hv⟩
  have h1 : ∀ n, n < nN → (sh_ n).1 ≤ 3 → rfA_ (n : Int) = true := by decide +kernel
  have h2 := h1 a.toNat A.2.1 (by rw [A.2.2.1]; exact ht)
  rwa [toN_ A.1] at h2
def okO_ (ci k : Nat) : Bool := (List.range nN).all fun n => !(decide (sh_ n = (ci + 6, uN_ ci))) || rfL_.all fun q => !(decide (q.1 = (n : Int)) && decide (q.2.1 = (k : Int)))
theorem g_putO {h : PH} {a v z : Int} {ci : Nat} (k : Nat) (hG : G h) (A : isO nN a ci) (m : okO_ ci k = true) (hz : (k : Int) = z) (hv : inI v) : G (hs_ h a z v) := by
  subst hz
  refine ⟨rf_put hG.1 fun q hq e => ?_, hi_put hG.2 hv⟩
  have h1 := List.all_eq_true.mp m a.toNat (List.mem_range.mpr A.2.1)
  rw [decide_eq_true A.2.2, Bool.not_true, Bool.false_or] at h1
  have h2 := List.all_eq_true.mp h1 q hq
  rw [toN_ A.1, decide_eq_true e.1, decide_eq_true e.2] at h2
  cases h2
theorem io_lt {a : Int} {ci : Nat} (A : isO nN a ci) : a < 202 := by
  have h1 := A.1
  have h2 : a.toNat < 202 := A.2.1
  omega
theorem ia_lt {a : Int} {t n : Nat} (A : isA nN a t n) : a < 202 := by
  have h1 := A.1
  have h2 : a.toNat < 202 := A.2.1
  omega
theorem dd_ {d nl : Nat} (h : 1 ≤ d) (hn : nl ≤ 18) : d - 1 + 1 ≤ d ∧ 8 + (nl + 11) + 37 * (d - 1) ≤ 37 * d := ⟨by omega, by omega⟩
theorem ite01 (c : Prop) [Decidable c] : (if c then (1 : Int) else 0) = 0 ∨ (if c then (1 : Int) else 0) = 1 := by
  split
  · exact Or.inr rfl
  · exact Or.inl rfl
theorem pn_X1 : plainName RX1 = true := by decide +kernel
theorem pn_X2 : plainName RX2 = true := by decide +kernel
theorem pn_X3 : plainName RX3 = true := by decide +kernel
theorem pn_X4 : plainName RX4 = true := by decide +kernel
theorem pn_X5 : plainName RX5 = true := by decide +kernel
theorem pn_X6 : plainName RX6 = true := by decide +kernel
theorem pn_X8 : plainName RX8 = true := by decide +kernel
theorem pn_X9 : plainName RX9 = true := by decide +kernel
/-- a truth as a number -/
noncomputable def b01 (c : Prop) : Int := @ite _ c (Classical.propDecidable c) 1 0
theorem b01_t {c : Prop} (h : c) : b01 c = 1 := by unfold b01; exact if_pos h
theorem b01_f {c : Prop} (h : ¬ c) : b01 c = 0 := by unfold b01; exact if_neg h
theorem b01_0 {c : Prop} : b01 c = 0 ↔ ¬ c := ⟨fun h q => by rw [b01_t q] at h; omega, b01_f⟩
theorem b01_n {c : Prop} : ¬ b01 c = 0 ↔ c := ⟨fun h => Classical.byContradiction fun q => h (b01_f q), fun q h => by rw [b01_t q] at h; omega⟩
theorem b01_or (c : Prop) : b01 c = 0 ∨ b01 c = 1 := (Classical.em c).elim (fun h => Or.inr (b01_t h)) (fun h => Or.inl (b01_f h))
theorem b01_in (c : Prop) : inI (b01 c) := by rcases b01_or c with h | h <;> rw [h] <;> exact ⟨by decide, by decide⟩
/-! writes that hand on what every heap keeps -/
section RULESG
variable {E : EP} {M : PM} {d bc bs : Nat} {Q : PQ} {pc : Nat} {L st : List PV} {h : PH}
theorem s_iastoreG {a i v : Int} {n : Nat} (hd : decode M.2.1 pc = .ok (.iastore, 1)) (A : isA nN a 0 n) (h0 : 0 ≤ i) (h1 : i < n) (hG : G h) (hv : inI v) (kk : G (hs_ h a i v) → SE_ E M d bc bs Q (pc + 1) L st nN (hs_ h a i v)) : SE_ E M d bc bs Q pc L ((0, v) :: (0, i) :: (2, a) :: st) nN h :=
  s_iastore hd A h0 h1 (kk (g_putA hG A (by decide) hv))
theorem s_lastoreG {a i v : Int} {n : Nat} (hd : decode M.2.1 pc = .ok (.lastore, 1)) (A : isA nN a 3 n) (h0 : 0 ≤ i) (h1 : i < n) (hG : G h) (hv : inI v) (kk : G (hs_ h a i v) → SE_ E M d bc bs Q (pc + 1) L st nN (hs_ h a i v)) : SE_ E M d bc bs Q pc L ((1, v) :: (0, i) :: (2, a) :: st) nN h :=
  s_lastore hd A h0 h1 (kk (g_putA hG A (by decide) hv))
theorem s_bastore1G {a i v : Int} {n : Nat} (hd : decode M.2.1 pc = .ok (.bastore, 1)) (A : isA nN a 1 n) (h0 : 0 ≤ i) (h1 : i < n) (hG : G h) (hv0 : -128 ≤ v) (hv1 : v < 128) (kk : G (hs_ h a i v) → SE_ E M d bc bs Q (pc + 1) L st nN (hs_ h a i v)) : SE_ E M d bc bs Q pc L ((0, v) :: (0, i) :: (2, a) :: st) nN h :=
  s_bastore1 hd A h0 h1 hv0 hv1 (kk (g_putA hG A (by decide) ⟨by omega, by omega⟩))
theorem s_bastore2G {a i v : Int} {n : Nat} (hd : decode M.2.1 pc = .ok (.bastore, 1)) (A : isA nN a 2 n) (h0 : 0 ≤ i) (h1 : i < n) (hG : G h) (hv : v = 0 ∨ v = 1) (kk : G (hs_ h a i v) → SE_ E M d bc bs Q (pc + 1) L st nN (hs_ h a i v)) : SE_ E M d bc bs Q pc L ((0, v) :: (0, i) :: (2, a) :: st) nN h :=
  s_bastore2 hd A h0 h1 hv (kk (g_putA hG A (by decide) ⟨by omega, by omega⟩))
theorem s_putiG {a x z : Int} {idx ci : Nat} (k : Nat) (hd : decode M.2.1 pc = .ok (.putfield idx, 3)) (hw : Cond.fieldLink M.1 idx (uT_ ci k).1 (uT_ ci k).2.1 (uT_ ci k).2.2.1 ∈ TBL) (kl : Kl_ ci) (hk : k < uN_ ci) (hfin : (uT_ ci k).2.2.2 = false) (hf : fty_ ci k = .int) (A : isO nN a ci) (hz : (k : Int) = z) (m : okO_ ci k = true) (hG : G h) (hx : inI x)
    (kk : G (hs_ h a z x) → SE_ E M d bc bs Q (pc + 3) L st nN (hs_ h a z x)) : SE_ E M d bc bs Q pc L ((0, x) :: (2, a) :: st) nN h := s_puti hd hw kl hk hfin hf A hz (kk (g_putO k hG A m hz hx))
theorem s_putzG {a x z : Int} {idx ci : Nat} (k : Nat) (hd : decode M.2.1 pc = .ok (.putfield idx, 3)) (hw : Cond.fieldLink M.1 idx (uT_ ci k).1 (uT_ ci k).2.1 (uT_ ci k).2.2.1 ∈ TBL) (kl : Kl_ ci) (hk : k < uN_ ci) (hfin : (uT_ ci k).2.2.2 = false) (hf : fty_ ci k = .boolean) (A : isO nN a ci) (hz : (k : Int) = z) (m : okO_ ci k = true) (hG : G h) (hx : x = 0 ∨ x = 1)
    (kk : G (hs_ h a z x) → SE_ E M d bc bs Q (pc + 3) L st nN (hs_ h a z x)) : SE_ E M d bc bs Q pc L ((0, x) :: (2, a) :: st) nN h := s_putz hd hw kl hk hfin hf A hz hx (kk (g_putO k hG A m hz ⟨by omega, by omega⟩))
theorem s_putrG {a x z : Int} {idx ci : Nat} (k : Nat) (hd : decode M.2.1 pc = .ok (.putfield idx, 3)) (hw : Cond.fieldLink M.1 idx (uT_ ci k).1 (uT_ ci k).2.1 (uT_ ci k).2.2.1 ∈ TBL) (kl : Kl_ ci) (hk : k < uN_ ci) (hfin : (uT_ ci k).2.2.2 = false) (hf : fk_ (fty_ ci k) = 2) (A : isO nN a ci) (hz : (k : Int) = z) (m : okO_ ci k = true) (hG : G h) (hx : 0 ≤ x) (hx2 : x < 202)
    (kk : G (hs_ h a z x) → SE_ E M d bc bs Q (pc + 3) L st nN (hs_ h a z x)) : SE_ E M d bc bs Q pc L ((2, x) :: (2, a) :: st) nN h := s_putr hd hw kl hk hfin hf A hz hx (kk (g_putO k hG A m hz ⟨by omega, by omega⟩))
end RULESG
