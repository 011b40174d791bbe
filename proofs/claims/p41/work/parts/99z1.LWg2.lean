theorem va_eqRR {args : Array Value} {s : State} {t u : Term} {b : Nat} (h : (Cond.eq t u).before args s = true) (hu : u.eval args s none [] s = some (.ref b)) : t.eval args s none [] s = some (.ref b) := by
  cases hv : t.eval args s none [] s with
  | none => simp [Cond.before, Cond.holds, Cond.value, hv] at h
  | some w =>
    simp only [Cond.before, Cond.holds, Cond.value, hv, hu] at h
    cases w <;> simp_all
section KXS
variable {args : Array Value} {s : State} {A : Nat → Prop}
theorem kx_texts (hf : ∀ c ∈ FLN, c.before args s = true) (hA : ∀ a : Nat, a < s.heap.size → ¬ A a) : ∃ ad : Nat → Nat × Nat, ∀ j : Nat, j < 44 → (tm_ j).eval args s none [] s = some (.ref (ad j).1) ∧ va_O sV_ (ad j).1 A s s.heap ∧ va_OF sV_ "coder" "B" (.int 0) (ad j).1 A s s.heap ∧ va_OF sV_ "value" "[B" (.ref (ad j).2) (ad j).1 A s s.heap ∧ va_T .byte (ad j).2 (txb_ j).length (fun i => .int (Int32.ofInt ((txb_ j).getD i 0))) A s s.heap := by
  have h0 : ∀ j : Nat, ∃ q : Nat × Nat, j < 44 → (tm_ j).eval args s none [] s = some (.ref q.1) ∧ va_O sV_ q.1 A s s.heap ∧ va_OF sV_ "coder" "B" (.int 0) q.1 A s s.heap ∧ va_OF sV_ "value" "[B" (.ref q.2) q.1 A s s.heap ∧ va_T .byte q.2 (txb_ j).length (fun i => .int (Int32.ofInt ((txb_ j).getD i 0))) A s s.heap := by
    intro j
    by_cases hj : j < 44
    · obtain ⟨t1, t2, t3, t4, t5, t6⟩ := tx_w j hj
      obtain ⟨a, c, cA, kA, q1, q2, q3, q4, q5, q6, -⟩ := Cond.exactly_spec (args := args) (first := s) (o := none) (s := s) (idx := []) (t := tm_ j) (cls := sV_) (hf _ (fl_mem _ t1))
      obtain ⟨t, ht, hT⟩ := va_Tof (f := fun i => .int (Int32.ofInt ((txb_ j).getD i 0))) (A := A) t5 (hf _ (fl_mem _ t3)) (va_eqt (hf _ (fl_mem _ t4))) (fun i hi => va_eqt (hf _ (fl_mem _ (t6 i hi)))) hA
      exact ⟨(a, t), fun _ => ⟨q1, va_Oof (hf _ (fl_mem _ t1)) q1 hA, vk_OFof q1 (va_eqt (hf _ (fl_mem _ t2))) hA, vk_OFof q1 ht hA, hT⟩⟩
    · exact ⟨(0, 0), fun h => absurd h hj⟩
  exact Classical.axiomOfChoice h0
theorem kx_words (hf : ∀ c ∈ FLN, c.before args s = true) (hA : ∀ a : Nat, a < s.heap.size → ¬ A a) {ad : Nat → Nat × Nat} (hT : ∀ j : Nat, j < 44 → (tm_ j).eval args s none [] s = some (.ref (ad j).1)) : ∃ w : Nat → Nat, ∀ j : Nat, j < 24 → (wT_ j).eval args s none [] s = some (.ref (w j)) ∧ va_O "WillHouse$Word" (w j) A s s.heap ∧ va_OF "java/lang/Enum" "ordinal" "I" (.int (Int32.ofInt (j : Int))) (w j) A s s.heap ∧ va_OF "WillHouse$Word" "letters" "Ljava/lang/String;" (.ref (ad j).1) (w j) A s s.heap := by
  have h0 : ∀ j : Nat, ∃ q : Nat, j < 24 → (wT_ j).eval args s none [] s = some (.ref q) ∧ va_O "WillHouse$Word" q A s s.heap ∧ va_OF "java/lang/Enum" "ordinal" "I" (.int (Int32.ofInt (j : Int))) q A s s.heap ∧ va_OF "WillHouse$Word" "letters" "Ljava/lang/String;" (.ref (ad j).1) q A s s.heap := by
    intro j
    by_cases hj : j < 24
    · obtain ⟨t1, t2, t3, -⟩ := wd_w j hj
      obtain ⟨a, c, cA, kA, q1, q2, q3, q4, q5, q6, -⟩ := Cond.exactly_spec (args := args) (first := s) (o := none) (s := s) (idx := []) (t := wT_ j) (cls := "WillHouse$Word") (hf _ (fl_mem _ t1))
      exact ⟨a, fun _ => ⟨q1, va_Oof (hf _ (fl_mem _ t1)) q1 hA, vk_OFof q1 (va_eqt (hf _ (fl_mem _ t2))) hA, vk_OFof q1 (va_eqRR (hf _ (fl_mem _ t3)) (hT j (by omega))) hA⟩⟩
    · exact ⟨0, fun h => absurd h hj⟩
  exact Classical.axiomOfChoice h0
/-- numbers of what stands still, by these addresses -/
def a2_ (sz b : Nat) (ad : Nat → Nat × Nat) (w : Nat → Nat) (r0 r1 r2 r3 r4 r5 : Nat) (x : Int) : Nat :=
  if x < 1000 then sz + x.toNat + (if 198 < x.toNat then 1 else 0) else if x < 1100 then (ad (x - 1000).toNat).1 else if x < 1200 then (ad (x - 1100).toNat).2 else if x < 1300 then w (x - 1200).toNat else if x = 1300 then r0 else if x = 1301 then r1 else if x = 1302 then r2 else if x = 1303 then r3 else if x = 1304 then r4 else if x = 1305 then r5 else b
set_option maxHeartbeats 2000000 in
theorem kx_start (hts : ∀ w ∈ lw_tbl, w.before args s = true) (hf : ∀ c ∈ FLN, c.before args s = true) (hA : ∀ a : Nat, a < s.heap.size → ¬ A a) (sz b : Nat) : ∃ (ad : Nat → Nat × Nat) (w : Nat → Nat) (r0 r1 r2 r3 r4 r5 : Nat), Kx_ A s s.heap (a2_ sz b ad w r0 r1 r2 r3 r4 r5) := by
  obtain ⟨ad, hT⟩ := kx_texts (A := A) hf hA
  obtain ⟨w, hW⟩ := kx_words (A := A) hf hA (fun j hj => (hT j hj).1)
  obtain ⟨⟨m1, m2, m3⟩, ⟨m4, m5⟩, ⟨m6, m7, m8⟩, ⟨m9, n1, n2⟩, ⟨n3, n4, n5⟩⟩ := ar_w
  obtain ⟨r0, e0, T0⟩ := va_Tof (N := 24) (f := fun i => .ref (w i)) (A := A) (by decide) (hf _ (fl_mem _ m4)) (va_eqt (hf _ (fl_mem _ m5))) (fun i hi => va_eqRR (hf _ (fl_mem _ (wd_w i hi).2.2.2)) (hW i hi).1) hA
  obtain ⟨r1, e1, T1⟩ := va_Tof (N := 24) (f := fun i => .int (Int32.ofInt (swm_.getD i 0))) (A := A) (by decide) (hf _ (fl_mem _ m1)) (va_eqt (hf _ (fl_mem _ m2))) (fun i hi => va_eqt (hf _ (fl_mem _ (m3 i hi)))) hA
  obtain ⟨r2, e2, T2⟩ := va_Tof (N := 5) (f := fun i => .int (Int32.ofInt (mtd_.getD i 0))) (A := A) (by decide) (hf _ (fl_mem _ m6)) (va_eqt (hf _ (fl_mem _ m7))) (fun i hi => va_eqt (hf _ (fl_mem _ (m8 i hi)))) hA
  obtain ⟨r3, e3, T3⟩ := va_Tof (N := 100) (f := fun i => .int (Int32.ofInt (dgo_ i))) (A := A) (by decide) (hf _ (fl_mem _ m9)) (va_eqt (hf _ (fl_mem _ n1))) (fun i hi => va_eqt (hf _ (fl_mem _ (n2 i hi)))) hA
  obtain ⟨r4, e4, T4⟩ := va_Tof (N := 100) (f := fun i => .int (Int32.ofInt (dgt_ i))) (A := A) (by decide) (hf _ (fl_mem _ n3)) (va_eqt (hf _ (fl_mem _ n4))) (fun i hi => va_eqt (hf _ (fl_mem _ (n5 i hi)))) hA
  have Z5 := va_Zqof (C := "jdk/internal/util/Preconditions") (n := "SIOOBE_FORMATTER") (d := "Ljava/util/function/BiFunction;") (A := A) (hts _ (List.mem_of_getElem? (i := 810) (by decide +kernel))) (hts _ (List.mem_of_getElem? (i := 65) (by decide +kernel))) (hf _ (fl_mem 15 (by decide +kernel))) hA
  have hr5 : ∃ r5 : Nat, va_Z "jdk/internal/util/Preconditions" "SIOOBE_FORMATTER" "Ljava/util/function/BiFunction;" .null A s s.heap ∨ va_Z "jdk/internal/util/Preconditions" "SIOOBE_FORMATTER" "Ljava/util/function/BiFunction;" (.ref r5) A s s.heap := by
    rcases Z5 with z | ⟨t, z⟩
    · exact ⟨0, Or.inl z⟩
    · exact ⟨t, Or.inr z⟩
  obtain ⟨r5, Z5⟩ := hr5
  have x10 : ∀ j : Nat, j < 100 → a2_ sz b ad w r0 r1 r2 r3 r4 r5 (1000 + (j : Int)) = (ad j).1 := fun j hj => by
    unfold a2_
    rw [if_neg (by omega), if_pos (by omega), show (1000 + (j : Int) - 1000).toNat = j by omega]
  have x11 : ∀ j : Nat, j < 100 → a2_ sz b ad w r0 r1 r2 r3 r4 r5 (1100 + (j : Int)) = (ad j).2 := fun j hj => by
    unfold a2_
    rw [if_neg (by omega), if_neg (by omega), if_pos (by omega), show (1100 + (j : Int) - 1100).toNat = j by omega]
  have x12 : ∀ j : Nat, j < 100 → a2_ sz b ad w r0 r1 r2 r3 r4 r5 (1200 + (j : Int)) = w j := fun j hj => by
    unfold a2_
    rw [if_neg (by omega), if_neg (by omega), if_neg (by omega), if_pos (by omega), show (1200 + (j : Int) - 1200).toNat = j by omega]
  have x24 : ∀ j : Nat, j < 20 → a2_ sz b ad w r0 r1 r2 r3 r4 r5 (1024 + (j : Int)) = (ad (24 + j)).1 := fun j hj => by
    rw [show (1024 + (j : Int)) = 1000 + ((24 + j : Nat) : Int) by omega]
    exact x10 (24 + j) (by omega)
  have st : ∀ q ∈ kst_, ∀ r : Nat, (Term.static q.1 q.2.1 q.2.2.1).eval args s none [] s = some (.ref r) → va_Z q.1 q.2.1 q.2.2.1 (.ref r) A s s.heap := fun q hq r hr => va_Zref (hts _ (ls_w q hq).1) (hts _ (ls_w q hq).2) hr hA
  refine ⟨ad, w, r0, r1, r2, r3, r4, r5, fun j hj => ?_, fun j hj => ?_, fun j hj => ?_, ?_, ?_, T1, T2, T3, T4, ?_, Z5, ?_, ?_, fun u hu => ?_, fun q hq => va_Nc.of (hf _ (nc_w q hq)), fun q hq => ?_⟩
  · rw [x24 j hj]
    refine vk_R.of (hts _ (mo_w j hj).1) ?_
    have := (hT (24 + j) (by omega)).1
    rw [(mo_w j hj).2] at this
    exact this
  · rw [x10 j (by omega), x11 j (by omega)]
    exact (hT j hj).2
  · rw [x12 j (by omega), x10 j (by omega)]
    exact (hW j hj).2
  · have wz : ∀ j : Nat, j < 24 → ∀ q : String × String × String × Int, q ∈ kst_ → q = ("WillHouse$Word", wnm_ j, "LWillHouse$Word;", 1200 + (j : Int)) → va_Z q.1 q.2.1 q.2.2.1 (.ref (a2_ sz b ad w r0 r1 r2 r3 r4 r5 q.2.2.2)) A s s.heap := fun j hj q hq e => by
      have h9 := st q hq (w j) (by rw [e]; exact (hW j hj).1)
      have h8 : a2_ sz b ad w r0 r1 r2 r3 r4 r5 q.2.2.2 = w j := by rw [e]; exact x12 j (by omega)
      rw [h8]
      exact h9
    intro q hq
    have hq' := hq
    simp only [kst_, List.mem_cons, List.not_mem_nil, or_false] at hq
    rcases hq with e | e | e | e | e | e | e | e | e | e | e | e
    · exact wz 6 (by decide) q hq' e
    · exact wz 8 (by decide) q hq' e
    · exact wz 10 (by decide) q hq' e
    · exact wz 14 (by decide) q hq' e
    · exact wz 17 (by decide) q hq' e
    · exact wz 22 (by decide) q hq' e
    · exact wz 23 (by decide) q hq' e
    · subst e; exact st _ hq' r0 e0
    · subst e; exact st _ hq' r1 e1
    · subst e; exact st _ hq' r2 e2
    · subst e; exact st _ hq' r3 e3
    · subst e; exact st _ hq' r4 e4
  · obtain ⟨cell, h1, h2, h3, h4, h5, h6, h7⟩ := T0
    exact ⟨cell, h1, h2, h3, h4, h5, fun j hj => by
      show cell.slots[j]? = some (Value.ref (a2_ sz b ad w r0 r1 r2 r3 r4 r5 (1200 + (j : Int))))
      rw [x12 j (by omega)]
      exact h6 j hj, h7⟩
  · exact va_Zof (hts _ (List.mem_of_getElem? (i := 673) (by decide +kernel))) (hts _ (List.mem_of_getElem? (i := 58) (by decide +kernel))) (va_eqi (hf _ (fl_mem 14 (by decide +kernel)))) hA
  · exact vx_Zqof (hts _ (List.mem_of_getElem? (i := 111) (by decide +kernel))) (hts _ (List.mem_of_getElem? (i := 69) (by decide +kernel))) (hf _ (fl_mem 4 (by decide +kernel))) hA
  · exact vx_Zqof (hts _ (List.mem_of_getElem? (i := 113) (by decide +kernel))) (hts _ (List.mem_of_getElem? (i := 69) (by decide +kernel))) (hf _ (fl_mem 5 (by decide +kernel))) hA
  · have g := (List.mem_filter.mp hu).2
    have hb := hts u (List.mem_filter.mp hu).1
    cases u with
    | declares x => exact va_Nw.of rfl hb
    | castable C T => exact va_Nw.of rfl hb
    | fieldLinkNest a i b n d h9 => exact va_Nw.of rfl hb
    | methodLinkNest a i x h9 => exact va_Nw.of rfl hb
    | _ => cases g
  · obtain ⟨h1, h2⟩ := ms_w q hq
    obtain ⟨a, c, cA, kA, q1, -⟩ := Cond.exactly_spec (args := args) (first := s) (o := none) (s := s) (idx := []) (t := .string q.1 q.2.1) (cls := sV_) (hf _ h2)
    exact ⟨a, vk_R.of (hts _ h1) q1⟩
end KXS
