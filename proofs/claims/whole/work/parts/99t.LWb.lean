/-! what each call answers: which exception (0: none), what, the picture behind it -/
theorem k3_ {k a : Int} {z : PH} (h0 : 0 ≤ k) (h1 : k ≤ 3) : 0 ≤ ((k, a, z) : Int × Int × PH).1 ∧ ((k, a, z) : Int × Int × PH).1 ≤ 3 := ⟨h0, h1⟩
noncomputable def op_read (z : PH) : Int × Int × PH := if (zrd z).1 = -1 then (0, ((zrd z).2.2 0 2), (zread z (zrd z).2.2)) else (1, 0, (zwrong z (zrd z).1))
theorem ok_read {z : PH} : 0 ≤ (op_read z).1 ∧ (op_read z).1 ≤ 3 := by
  unfold op_read
  repeat' split
  all_goals exact k3_ (by decide) (by decide)
noncomputable def op_name (z : PH) (q i t : Int) : Int × Int × PH := if (if q = 0 then 0 ≤ i ∧ i < z 0 0 else 0 ≤ i ∧ i < z 0 1) then (0, (zname z q i t), z) else (1, 0, z)
theorem ok_name {z : PH} {q i t : Int} : 0 ≤ (op_name z q i t).1 ∧ (op_name z q i t).1 ≤ 3 := by
  unfold op_name
  repeat' split
  all_goals exact k3_ (by decide) (by decide)
noncomputable def op_thing (z : PH) (t v : Int) : Int × Int × PH := if 0 ≤ t ∧ t < z 0 0 ∧ 0 ≤ v ∧ v ≤ 4 then (0, (zthing z t v), z) else if ¬ (0 ≤ t ∧ t < z 0 0) then (1, 0, z) else (2, 0, z)
theorem ok_thing {z : PH} {t v : Int} : 0 ≤ (op_thing z t v).1 ∧ (op_thing z t v).1 ≤ 3 := by
  unfold op_thing
  repeat' split
  all_goals exact k3_ (by decide) (by decide)
noncomputable def op_person (z : PH) (p v : Int) : Int × Int × PH := if 0 ≤ p ∧ p < z 0 1 ∧ 0 ≤ v ∧ v ≤ 5 then (0, (zperson z p v), z) else if ¬ (0 ≤ p ∧ p < z 0 1) then (1, 0, z) else (2, 0, z)
theorem ok_person {z : PH} {p v : Int} : 0 ≤ (op_person z p v).1 ∧ (op_person z p v).1 ≤ 3 := by
  unfold op_person
  repeat' split
  all_goals exact k3_ (by decide) (by decide)
noncomputable def op_gift (z : PH) (g v : Int) : Int × Int × PH := if 0 ≤ g ∧ g < z 0 2 ∧ 0 ≤ v ∧ v ≤ 6 then (0, (zgift z g v), z) else if ¬ (0 ≤ g ∧ g < z 0 2) then (1, 0, z) else (2, 0, z)
theorem ok_gift {z : PH} {g v : Int} : 0 ≤ (op_gift z g v).1 ∧ (op_gift z g v).1 ≤ 3 := by
  unfold op_gift
  repeat' split
  all_goals exact k3_ (by decide) (by decide)
noncomputable def op_sell (z : PH) (t p v : Int) : Int × Int × PH := if 0 ≤ t ∧ t < z 0 0 ∧ (1 ≤ p ∧ p ≤ 9999 ∧ 0 ≤ v ∧ v ≤ p) ∧ z 1 (8 + t) = 0 ∧ z 1 56 + p - v ≤ 99999 then (0, (z 1 56 + (p - v)), (zact z (fsold (z 1) t p v))) else if ¬ (0 ≤ t ∧ t < z 0 0) then (1, 0, z) else if 0 ≤ t ∧ t < z 0 0 ∧ ¬ (1 ≤ p ∧ p ≤ 9999 ∧ 0 ≤ v ∧ v ≤ p) then (2, 0, z) else (3, 0, z)
theorem ok_sell {z : PH} {t p v : Int} : 0 ≤ (op_sell z t p v).1 ∧ (op_sell z t p v).1 ≤ 3 := by
  unfold op_sell
  repeat' split
  all_goals exact k3_ (by decide) (by decide)
noncomputable def op_change (z : PH) (t v : Int) : Int × Int × PH := if 0 ≤ t ∧ t < z 0 0 ∧ 1 ≤ v ∧ v ≤ 9999 ∧ z 1 (8 + t) = 0 then (0, (z 1 t), (zact z (fu_ (z 1) t v))) else if ¬ (0 ≤ t ∧ t < z 0 0) then (1, 0, z) else if 0 ≤ t ∧ t < z 0 0 ∧ ¬ (1 ≤ v ∧ v ≤ 9999) then (2, 0, z) else (3, 0, z)
theorem ok_change {z : PH} {t v : Int} : 0 ≤ (op_change z t v).1 ∧ (op_change z t v).1 ≤ 3 := by
  unfold op_change
  repeat' split
  all_goals exact k3_ (by decide) (by decide)
noncomputable def op_lose (z : PH) (t v : Int) : Int × Int × PH := if 0 ≤ t ∧ t < z 0 0 ∧ 0 ≤ v ∧ v ≤ 9999 ∧ z 1 (8 + t) = 0 then (0, (z 1 t), (zact z (flost (z 1) t v))) else if ¬ (0 ≤ t ∧ t < z 0 0) then (1, 0, z) else if 0 ≤ t ∧ t < z 0 0 ∧ ¬ (0 ≤ v ∧ v ≤ 9999) then (2, 0, z) else (3, 0, z)
theorem ok_lose {z : PH} {t v : Int} : 0 ≤ (op_lose z t v).1 ∧ (op_lose z t v).1 ≤ 3 := by
  unfold op_lose
  repeat' split
  all_goals exact k3_ (by decide) (by decide)
noncomputable def op_die (z : PH) (p : Int) : Int × Int × PH := if 0 ≤ p ∧ p < z 0 1 ∧ z 1 (32 + p) = 0 then (0, (zliving (zput z (fu_ (z 1) (32 + p) 1))), (zact z (fu_ (z 1) (32 + p) 1))) else if ¬ (0 ≤ p ∧ p < z 0 1) then (1, 0, z) else (2, 0, z)
theorem ok_die {z : PH} {p : Int} : 0 ≤ (op_die z p).1 ∧ (op_die z p).1 ≤ 3 := by
  unfold op_die
  repeat' split
  all_goals exact k3_ (by decide) (by decide)
noncomputable def op_renounce (z : PH) (g v : Int) : Int × Int × PH := if 0 ≤ g ∧ g < z 0 2 then (0, (b01 (¬ z 1 (44 + g) = 0)), (zact z (fu_ (z 1) (44 + g) v))) else (1, 0, z)
theorem ok_renounce {z : PH} {g v : Int} : 0 ≤ (op_renounce z g v).1 ∧ (op_renounce z g v).1 ≤ 3 := by
  unfold op_renounce
  repeat' split
  all_goals exact k3_ (by decide) (by decide)
noncomputable def op_set (z : PH) (t v : Int) : Int × Int × PH := if 0 ≤ t ∧ t < 5 ∧ 0 ≤ v ∧ v ≤ zmt t then (0, (z 1 (56 + t)), (zact z (fu_ (z 1) (56 + t) v))) else if ¬ (0 ≤ t ∧ t < 5) then (1, 0, z) else (2, 0, z)
theorem ok_set {z : PH} {t v : Int} : 0 ≤ (op_set z t v).1 ∧ (op_set z t v).1 ≤ 3 := by
  unfold op_set
  repeat' split
  all_goals exact k3_ (by decide) (by decide)
noncomputable def op_estate (z : PH) (v : Int) : Int × Int × PH := if 0 ≤ v ∧ v ≤ 7 then (0, (zestate z v), z) else (1, 0, z)
theorem ok_estate {z : PH} {v : Int} : 0 ≤ (op_estate z v).1 ∧ (op_estate z v).1 ≤ 3 := by
  unfold op_estate
  repeat' split
  all_goals exact k3_ (by decide) (by decide)
noncomputable def op_due (z : PH) (g c : Int) : Int × Int × PH := if 0 ≤ g ∧ g < z 0 2 ∧ 0 ≤ c ∧ c ≤ 6 then (0, (zde z g c), z) else if ¬ (0 ≤ g ∧ g < z 0 2) then (1, 0, z) else (2, 0, z)
theorem ok_due {z : PH} {g c : Int} : 0 ≤ (op_due z g c).1 ∧ (op_due z g c).1 ≤ 3 := by
  unfold op_due
  repeat' split
  all_goals exact k3_ (by decide) (by decide)
noncomputable def op_gets (z : PH) (g c : Int) : Int × Int × PH := if 0 ≤ g ∧ g < z 0 2 ∧ -1 ≤ c ∧ c ≤ 6 then (0, (zgets z g c), z) else if ¬ (0 ≤ g ∧ g < z 0 2) then (1, 0, z) else (2, 0, z)
theorem ok_gets {z : PH} {g c : Int} : 0 ≤ (op_gets z g c).1 ∧ (op_gets z g c).1 ≤ 3 := by
  unfold op_gets
  repeat' split
  all_goals exact k3_ (by decide) (by decide)
noncomputable def op_classed (z : PH) (c v : Int) : Int × Int × PH := if 0 ≤ c ∧ c ≤ 6 ∧ 0 ≤ v ∧ v ≤ 2 then (0, (zclassed z c v), z) else if ¬ (0 ≤ c ∧ c ≤ 6) then (1, 0, z) else (2, 0, z)
theorem ok_classed {z : PH} {c v : Int} : 0 ≤ (op_classed z c v).1 ∧ (op_classed z c v).1 ≤ 3 := by
  unfold op_classed
  repeat' split
  all_goals exact k3_ (by decide) (by decide)
noncomputable def op_itself (z : PH) (g : Int) : Int × Int × PH := if 0 ≤ g ∧ g < z 0 2 ∧ z 5 g = 0 then (0, (zitself z g), z) else if ¬ (0 ≤ g ∧ g < z 0 2) then (1, 0, z) else (2, 0, z)
theorem ok_itself {z : PH} {g : Int} : 0 ≤ (op_itself z g).1 ∧ (op_itself z g).1 ≤ 3 := by
  unfold op_itself
  repeat' split
  all_goals exact k3_ (by decide) (by decide)
noncomputable def op_leastDebt (z : PH) (c : Int) : Int × Int × PH := if 0 ≤ c ∧ c ≤ 4 then (0, (zleast z c), z) else (1, 0, z)
theorem ok_leastDebt {z : PH} {c : Int} : 0 ≤ (op_leastDebt z c).1 ∧ (op_leastDebt z c).1 ≤ 3 := by
  unfold op_leastDebt
  repeat' split
  all_goals exact k3_ (by decide) (by decide)
noncomputable def op_needed (z : PH) (c : Int) : Int × Int × PH := if 0 ≤ c ∧ c ≤ 4 then (0, (zneed z c), z) else (1, 0, z)
theorem ok_needed {z : PH} {c : Int} : 0 ≤ (op_needed z c).1 ∧ (op_needed z c).1 ≤ 3 := by
  unfold op_needed
  repeat' split
  all_goals exact k3_ (by decide) (by decide)
noncomputable def op_part (z : PH) (g : Int) : Int × Int × PH := if 0 ≤ g ∧ g < z 0 2 then (0, (zpart z g), z) else (1, 0, z)
theorem ok_part {z : PH} {g : Int} : 0 ≤ (op_part z g).1 ∧ (op_part z g).1 ≤ 3 := by
  unfold op_part
  repeat' split
  all_goals exact k3_ (by decide) (by decide)
noncomputable def op_left (z : PH) (t : Int) : Int × Int × PH := if 0 ≤ t ∧ t < z 0 0 then (0, (zfl z (z 0 2).toNat t), z) else (1, 0, z)
theorem ok_left {z : PH} {t : Int} : 0 ≤ (op_left z t).1 ∧ (op_left z t).1 ≤ 3 := by
  unfold op_left
  repeat' split
  all_goals exact k3_ (by decide) (by decide)
noncomputable def op_takes (z : PH) (g p : Int) : Int × Int × PH := if 0 ≤ g ∧ g < z 0 2 ∧ 0 ≤ p ∧ p < z 0 1 then (0, (ztk z g p), z) else (1, 0, z)
theorem ok_takes {z : PH} {g p : Int} : 0 ≤ (op_takes z g p).1 ∧ (op_takes z g p).1 ≤ 3 := by
  unfold op_takes
  repeat' split
  all_goals exact k3_ (by decide) (by decide)
noncomputable def op_taken (z : PH) (p v : Int) : Int × Int × PH := if 0 ≤ p ∧ p < z 0 1 ∧ 0 ≤ v ∧ v ≤ 2 then (0, (ztaken z p v), z) else if ¬ (0 ≤ p ∧ p < z 0 1) then (1, 0, z) else (2, 0, z)
theorem ok_taken {z : PH} {p v : Int} : 0 ≤ (op_taken z p v).1 ∧ (op_taken z p v).1 ≤ 3 := by
  unfold op_taken
  repeat' split
  all_goals exact k3_ (by decide) (by decide)
noncomputable def op_stock (z : PH) (x v : Int) : Int × Int × PH := if 0 ≤ x ∧ x < z 0 1 then (0, (zstock z x v), z) else (1, 0, z)
theorem ok_stock {z : PH} {x v : Int} : 0 ≤ (op_stock z x v).1 ∧ (op_stock z x v).1 ≤ 3 := by
  unfold op_stock
  repeat' split
  all_goals exact k3_ (by decide) (by decide)
noncomputable def op_ifDead (z : PH) (p t : Int) : Int × Int × PH := if 0 ≤ p ∧ p < z 0 1 ∧ 0 ≤ t ∧ t < z 0 1 ∧ z 1 (32 + t) = 0 then (0, (zta (zput z (fu_ (z 1) (32 + t) 1)) p), z) else if ¬ ((0 ≤ p ∧ p < z 0 1) ∧ 0 ≤ t ∧ t < z 0 1) then (1, 0, z) else (2, 0, z)
theorem ok_ifDead {z : PH} {p t : Int} : 0 ≤ (op_ifDead z p t).1 ∧ (op_ifDead z p t).1 ≤ 3 := by
  unfold op_ifDead
  repeat' split
  all_goals exact k3_ (by decide) (by decide)
noncomputable def op_ifSold (z : PH) (p t v e : Int) : Int × Int × PH := if 0 ≤ p ∧ p < z 0 1 ∧ 0 ≤ t ∧ t < z 0 0 ∧ (1 ≤ v ∧ v ≤ 9999 ∧ 0 ≤ e ∧ e ≤ v) ∧ z 1 (8 + t) = 0 ∧ z 1 56 + v - e ≤ 99999 then (0, (zta (zput z (fsold (z 1) t v e)) p), z) else if ¬ ((0 ≤ p ∧ p < z 0 1) ∧ 0 ≤ t ∧ t < z 0 0) then (1, 0, z) else if 0 ≤ p ∧ p < z 0 1 ∧ 0 ≤ t ∧ t < z 0 0 ∧ ¬ (1 ≤ v ∧ v ≤ 9999 ∧ 0 ≤ e ∧ e ≤ v) then (2, 0, z) else (3, 0, z)
theorem ok_ifSold {z : PH} {p t v e : Int} : 0 ≤ (op_ifSold z p t v e).1 ∧ (op_ifSold z p t v e).1 ≤ 3 := by
  unfold op_ifSold
  repeat' split
  all_goals exact k3_ (by decide) (by decide)
noncomputable def op_ifDebt (z : PH) (p v : Int) : Int × Int × PH := if 0 ≤ p ∧ p < z 0 1 ∧ 0 ≤ v ∧ v ≤ 99999 then (0, (zta (zput z (fu_ (z 1) (56 + 1) v)) p), z) else if ¬ (0 ≤ p ∧ p < z 0 1) then (1, 0, z) else (2, 0, z)
theorem ok_ifDebt {z : PH} {p v : Int} : 0 ≤ (op_ifDebt z p v).1 ∧ (op_ifDebt z p v).1 ≤ 3 := by
  unfold op_ifDebt
  repeat' split
  all_goals exact k3_ (by decide) (by decide)
noncomputable def op_ifRenounced (z : PH) (p g : Int) : Int × Int × PH := if 0 ≤ p ∧ p < z 0 1 ∧ 0 ≤ g ∧ g < z 0 2 then (0, (zta (zput z (fu_ (z 1) (44 + g) 1)) p), z) else (1, 0, z)
theorem ok_ifRenounced {z : PH} {p g : Int} : 0 ≤ (op_ifRenounced z p g).1 ∧ (op_ifRenounced z p g).1 ≤ 3 := by
  unfold op_ifRenounced
  repeat' split
  all_goals exact k3_ (by decide) (by decide)
noncomputable def op_ifHeld (z : PH) (g : Int) : Int × Int × PH := if 0 ≤ g ∧ g < z 0 2 ∧ ¬ z 7 g = -1 then (0, (sumI (zgt (zput z (fu_ (z 1) (8 + z 7 g) 0)) g) 0 7), z) else if ¬ (0 ≤ g ∧ g < z 0 2) then (1, 0, z) else (2, 0, z)
theorem ok_ifHeld {z : PH} {g : Int} : 0 ≤ (op_ifHeld z g).1 ∧ (op_ifHeld z g).1 ≤ 3 := by
  unfold op_ifHeld
  repeat' split
  all_goals exact k3_ (by decide) (by decide)
noncomputable def op_envied (z : PH) (p : Int) : Int × Int × PH := if 0 ≤ p ∧ p < z 0 1 then (0, (zenv z p), z) else (1, 0, z)
theorem ok_envied {z : PH} {p : Int} : 0 ≤ (op_envied z p).1 ∧ (op_envied z p).1 ≤ 3 := by
  unfold op_envied
  repeat' split
  all_goals exact k3_ (by decide) (by decide)
noncomputable def op_write (z : PH) (p : Int) : Int × Int × PH := if 0 ≤ p ∧ p < z 0 1 then (0, (rep z p).1, (zwt z (rep z p))) else (1, 0, z)
theorem ok_write {z : PH} {p : Int} : 0 ≤ (op_write z p).1 ∧ (op_write z p).1 ≤ 3 := by
  unfold op_write
  repeat' split
  all_goals exact k3_ (by decide) (by decide)
noncomputable def op_feed (z : PH) (a b c e g : Int) : Int × Int × PH := if z 50 0 ≤ 380 then (0, (z 50 0 + 20), (zfeed z a b c e g)) else (0, (-1), z)
theorem ok_feed {z : PH} {a b c e g : Int} : 0 ≤ (op_feed z a b c e g).1 ∧ (op_feed z a b c e g).1 ≤ 3 := by
  unfold op_feed
  repeat' split
  all_goals exact k3_ (by decide) (by decide)
noncomputable def op_end (z : PH) (n : Int) : Int × Int × PH := if 0 ≤ n ∧ n ≤ z 50 0 then (0, 1, (zend z n)) else (0, 0, z)
theorem ok_end {z : PH} {n : Int} : 0 ≤ (op_end z n).1 ∧ (op_end z n).1 ≤ 3 := by
  unfold op_end
  repeat' split
  all_goals exact k3_ (by decide) (by decide)
noncomputable def op_fault (z : PH) : Int × Int × PH := (0, (z 52 0), z)
theorem ok_fault {z : PH} : 0 ≤ (op_fault z).1 ∧ (op_fault z).1 ≤ 3 := by
  unfold op_fault
  repeat' split
  all_goals exact k3_ (by decide) (by decide)
noncomputable def op_undo (z : PH) : Int × Int × PH := if 0 < z 53 0 then (0, (z 53 0 - 1), (zundo z)) else (0, (-1), z)
theorem ok_undo {z : PH} : 0 ≤ (op_undo z).1 ∧ (op_undo z).1 ≤ 3 := by
  unfold op_undo
  repeat' split
  all_goals exact k3_ (by decide) (by decide)
noncomputable def op_heir (z : PH) (v : Int) : Int × Int × PH := (0, (zheir z v), z)
theorem ok_heir {z : PH} {v : Int} : 0 ≤ (op_heir z v).1 ∧ (op_heir z v).1 ≤ 3 := by
  unfold op_heir
  repeat' split
  all_goals exact k3_ (by decide) (by decide)
noncomputable def op_ranked (z : PH) (v : Int) : Int × Int × PH := (0, (zranked z v), z)
theorem ok_ranked {z : PH} {v : Int} : 0 ≤ (op_ranked z v).1 ∧ (op_ranked z v).1 ≤ 3 := by
  unfold op_ranked
  repeat' split
  all_goals exact k3_ (by decide) (by decide)
noncomputable def op_octet (z : PH) (v : Int) : Int × Int × PH := (0, (zoct z v), z)
theorem ok_octet {z : PH} {v : Int} : 0 ≤ (op_octet z v).1 ∧ (op_octet z v).1 ≤ 3 := by
  unfold op_octet
  repeat' split
  all_goals exact k3_ (by decide) (by decide)
noncomputable def op_count (z : PH) (v : Int) : Int × Int × PH := (0, (zcount z v), z)
theorem ok_count {z : PH} {v : Int} : 0 ≤ (op_count z v).1 ∧ (op_count z v).1 ≤ 3 := by
  unfold op_count
  repeat' split
  all_goals exact k3_ (by decide) (by decide)
section OPR
variable {d bc bs : Nat} {Q : PQ} {h z : PH}
theorem r_read (hd : 12 ≤ d) (M : MR_ h z) (k : MK_ Q h (op_read z).2.2 (op_read z).1 (op_read z).2.1) : Cl_ yX9_read MX9_read d bc bs [(2, 196)] nN h Q := by
  unfold op_read at k
  refine c_X9_read (by omega) M (fun a1 => ?_) (fun a1 => ?_)
  · rw [if_pos (by first | assumption | omega | exact ⟨a1⟩)] at k
    exact k
  · rw [if_neg (by first | omega | assumption | (intro q; exact absurd q (by assumption)))] at k
    exact k
theorem r_name {q i t : Int} (hd : 12 ≤ d) (M : MR_ h z) (hq : q = 0 ∨ q = 1) (hi : inI i) (ht : inI t) (k : MK_ Q h (op_name z q i t).2.2 (op_name z q i t).1 (op_name z q i t).2.1) : Cl_ yX9_name MX9_name d bc bs [(2, 196), (0, q), (0, i), (0, t)] nN h Q := by
  unfold op_name at k
  refine c_X9_name (by omega) M hq hi ht (fun a1 => ?_) (fun a1 => ?_)
  · rw [if_pos (by first | assumption | omega | exact ⟨a1⟩)] at k
    exact k
  · rw [if_neg (by first | omega | assumption | (intro q; exact absurd q (by assumption)))] at k
    exact k
theorem r_thing {t v : Int} (hd : 12 ≤ d) (M : MR_ h z) (ht : inI t) (hv : inI v) (k : MK_ Q h (op_thing z t v).2.2 (op_thing z t v).1 (op_thing z t v).2.1) : Cl_ yX9_thing MX9_thing d bc bs [(2, 196), (0, t), (0, v)] nN h Q := by
  unfold op_thing at k
  refine c_X9_thing (by omega) M ht hv (fun a1 a2 a3 a4 => ?_) (fun a1 => ?_) (fun a1 a2 a3 => ?_)
  · rw [if_pos (by first | assumption | omega | exact ⟨a1, a2, a3, a4⟩)] at k
    exact k
  · rw [if_neg (by first | omega | assumption | (intro q; exact absurd q (by assumption))), if_pos (by first | assumption | omega | exact ⟨a1⟩)] at k
    exact k
  · rw [if_neg (by first | omega | assumption | (intro q; exact absurd q (by assumption))), if_neg (by first | omega | assumption | (intro q; exact absurd q (by assumption)))] at k
    exact k
theorem r_person {p v : Int} (hd : 12 ≤ d) (M : MR_ h z) (hp : inI p) (hv : inI v) (k : MK_ Q h (op_person z p v).2.2 (op_person z p v).1 (op_person z p v).2.1) : Cl_ yX9_person MX9_person d bc bs [(2, 196), (0, p), (0, v)] nN h Q := by
  unfold op_person at k
  refine c_X9_person (by omega) M hp hv (fun a1 a2 a3 a4 => ?_) (fun a1 => ?_) (fun a1 a2 a3 => ?_)
  · rw [if_pos (by first | assumption | omega | exact ⟨a1, a2, a3, a4⟩)] at k
    exact k
  · rw [if_neg (by first | omega | assumption | (intro q; exact absurd q (by assumption))), if_pos (by first | assumption | omega | exact ⟨a1⟩)] at k
    exact k
  · rw [if_neg (by first | omega | assumption | (intro q; exact absurd q (by assumption))), if_neg (by first | omega | assumption | (intro q; exact absurd q (by assumption)))] at k
    exact k
theorem r_gift {g v : Int} (hd : 12 ≤ d) (M : MR_ h z) (hg : inI g) (hv : inI v) (k : MK_ Q h (op_gift z g v).2.2 (op_gift z g v).1 (op_gift z g v).2.1) : Cl_ yX9_gift MX9_gift d bc bs [(2, 196), (0, g), (0, v)] nN h Q := by
  unfold op_gift at k
  refine c_X9_gift (by omega) M hg hv (fun a1 a2 a3 a4 => ?_) (fun a1 => ?_) (fun a1 a2 a3 => ?_)
  · rw [if_pos (by first | assumption | omega | exact ⟨a1, a2, a3, a4⟩)] at k
    exact k
  · rw [if_neg (by first | omega | assumption | (intro q; exact absurd q (by assumption))), if_pos (by first | assumption | omega | exact ⟨a1⟩)] at k
    exact k
  · rw [if_neg (by first | omega | assumption | (intro q; exact absurd q (by assumption))), if_neg (by first | omega | assumption | (intro q; exact absurd q (by assumption)))] at k
    exact k
theorem r_sell {t p v : Int} (hd : 12 ≤ d) (M : MR_ h z) (ht : inI t) (hp : inI p) (hv : inI v) (k : MK_ Q h (op_sell z t p v).2.2 (op_sell z t p v).1 (op_sell z t p v).2.1) : Cl_ yX9_sell MX9_sell d bc bs [(2, 196), (0, t), (0, p), (0, v)] nN h Q := by
  unfold op_sell at k
  refine c_X9_sell (by omega) M ht hp hv (fun a1 a2 a3 a4 a5 => ?_) (fun a1 => ?_) (fun a1 a2 a3 => ?_) (fun a1 a2 a3 a4 => ?_)
  · rw [if_pos (by first | assumption | omega | exact ⟨a1, a2, a3, a4, a5⟩)] at k
    exact k
  · rw [if_neg (by first | omega | assumption | (intro q; exact absurd q (by assumption))), if_pos (by first | assumption | omega | exact ⟨a1⟩)] at k
    exact k
  · rw [if_neg (by first | omega | assumption | (intro q; exact absurd q (by assumption))), if_neg (by first | omega | assumption | (intro q; exact absurd q (by assumption))), if_pos (by first | assumption | omega | exact ⟨a1, a2, a3⟩)] at k
    exact k
  · rw [if_neg (by first | omega | assumption | (intro q; exact absurd q (by assumption))), if_neg (by first | omega | assumption | (intro q; exact absurd q (by assumption))), if_neg (by first | omega | assumption | (intro q; exact absurd q (by assumption)))] at k
    exact k
theorem r_change {t v : Int} (hd : 12 ≤ d) (M : MR_ h z) (ht : inI t) (hv : inI v) (k : MK_ Q h (op_change z t v).2.2 (op_change z t v).1 (op_change z t v).2.1) : Cl_ yX9_change MX9_change d bc bs [(2, 196), (0, t), (0, v)] nN h Q := by
  unfold op_change at k
  refine c_X9_change (by omega) M ht hv (fun a1 a2 a3 a4 a5 => ?_) (fun a1 => ?_) (fun a1 a2 a3 => ?_) (fun a1 a2 a3 a4 a5 => ?_)
  · rw [if_pos (by first | assumption | omega | exact ⟨a1, a2, a3, a4, a5⟩)] at k
    exact k
  · rw [if_neg (by first | omega | assumption | (intro q; exact absurd q (by assumption))), if_pos (by first | assumption | omega | exact ⟨a1⟩)] at k
    exact k
  · rw [if_neg (by first | omega | assumption | (intro q; exact absurd q (by assumption))), if_neg (by first | omega | assumption | (intro q; exact absurd q (by assumption))), if_pos (by first | assumption | omega | exact ⟨a1, a2, a3⟩)] at k
    exact k
  · rw [if_neg (by first | omega | assumption | (intro q; exact absurd q (by assumption))), if_neg (by first | omega | assumption | (intro q; exact absurd q (by assumption))), if_neg (by first | omega | assumption | (intro q; exact absurd q (by assumption)))] at k
    exact k
theorem r_lose {t v : Int} (hd : 12 ≤ d) (M : MR_ h z) (ht : inI t) (hv : inI v) (k : MK_ Q h (op_lose z t v).2.2 (op_lose z t v).1 (op_lose z t v).2.1) : Cl_ yX9_lose MX9_lose d bc bs [(2, 196), (0, t), (0, v)] nN h Q := by
  unfold op_lose at k
  refine c_X9_lose (by omega) M ht hv (fun a1 a2 a3 a4 a5 => ?_) (fun a1 => ?_) (fun a1 a2 a3 => ?_) (fun a1 a2 a3 a4 a5 => ?_)
  · rw [if_pos (by first | assumption | omega | exact ⟨a1, a2, a3, a4, a5⟩)] at k
    exact k
  · rw [if_neg (by first | omega | assumption | (intro q; exact absurd q (by assumption))), if_pos (by first | assumption | omega | exact ⟨a1⟩)] at k
    exact k
  · rw [if_neg (by first | omega | assumption | (intro q; exact absurd q (by assumption))), if_neg (by first | omega | assumption | (intro q; exact absurd q (by assumption))), if_pos (by first | assumption | omega | exact ⟨a1, a2, a3⟩)] at k
    exact k
  · rw [if_neg (by first | omega | assumption | (intro q; exact absurd q (by assumption))), if_neg (by first | omega | assumption | (intro q; exact absurd q (by assumption))), if_neg (by first | omega | assumption | (intro q; exact absurd q (by assumption)))] at k
    exact k
theorem r_die {p : Int} (hd : 12 ≤ d) (M : MR_ h z) (hp : inI p) (k : MK_ Q h (op_die z p).2.2 (op_die z p).1 (op_die z p).2.1) : Cl_ yX9_die MX9_die d bc bs [(2, 196), (0, p)] nN h Q := by
  unfold op_die at k
  refine c_X9_die (by omega) M hp (fun a1 a2 a3 => ?_) (fun a1 => ?_) (fun a1 a2 a3 => ?_)
  · rw [if_pos (by first | assumption | omega | exact ⟨a1, a2, a3⟩)] at k
    exact k
  · rw [if_neg (by first | omega | assumption | (intro q; exact absurd q (by assumption))), if_pos (by first | assumption | omega | exact ⟨a1⟩)] at k
    exact k
  · rw [if_neg (by first | omega | assumption | (intro q; exact absurd q (by assumption))), if_neg (by first | omega | assumption | (intro q; exact absurd q (by assumption)))] at k
    exact k
theorem r_renounce {g v : Int} (hd : 12 ≤ d) (M : MR_ h z) (hg : inI g) (hv : v = 0 ∨ v = 1) (k : MK_ Q h (op_renounce z g v).2.2 (op_renounce z g v).1 (op_renounce z g v).2.1) : Cl_ yX9_renounce MX9_renounce d bc bs [(2, 196), (0, g), (0, v)] nN h Q := by
  unfold op_renounce at k
  refine c_X9_renounce (by omega) M hg hv (fun a1 a2 => ?_) (fun a1 => ?_)
  · rw [if_pos (by first | assumption | omega | exact ⟨a1, a2⟩)] at k
    exact k
  · rw [if_neg (by first | omega | assumption | (intro q; exact absurd q (by assumption)))] at k
    exact k
theorem r_set {t v : Int} (hd : 12 ≤ d) (M : MR_ h z) (ht : inI t) (hv : inI v) (k : MK_ Q h (op_set z t v).2.2 (op_set z t v).1 (op_set z t v).2.1) : Cl_ yX9_set MX9_set d bc bs [(2, 196), (0, t), (0, v)] nN h Q := by
  unfold op_set at k
  refine c_X9_set (by omega) M ht hv (fun a1 a2 a3 a4 => ?_) (fun a1 => ?_) (fun a1 a2 a3 => ?_)
  · rw [if_pos (by first | assumption | omega | exact ⟨a1, a2, a3, a4⟩)] at k
    exact k
  · rw [if_neg (by first | omega | assumption | (intro q; exact absurd q (by assumption))), if_pos (by first | assumption | omega | exact ⟨a1⟩)] at k
    exact k
  · rw [if_neg (by first | omega | assumption | (intro q; exact absurd q (by assumption))), if_neg (by first | omega | assumption | (intro q; exact absurd q (by assumption)))] at k
    exact k
theorem r_estate {v : Int} (hd : 12 ≤ d) (M : MR_ h z) (hv : inI v) (k : MK_ Q h (op_estate z v).2.2 (op_estate z v).1 (op_estate z v).2.1) : Cl_ yX9_estate MX9_estate d bc bs [(2, 196), (0, v)] nN h Q := by
  unfold op_estate at k
  refine c_X9_estate (by omega) M hv (fun a1 a2 => ?_) (fun a1 => ?_)
  · rw [if_pos (by first | assumption | omega | exact ⟨a1, a2⟩)] at k
    exact k
  · rw [if_neg (by first | omega | assumption | (intro q; exact absurd q (by assumption)))] at k
    exact k
theorem r_due {g c : Int} (hd : 12 ≤ d) (M : MR_ h z) (hg : inI g) (hc : inI c) (k : MK_ Q h (op_due z g c).2.2 (op_due z g c).1 (op_due z g c).2.1) : Cl_ yX9_due MX9_due d bc bs [(2, 196), (0, g), (0, c)] nN h Q := by
  unfold op_due at k
  refine c_X9_due (by omega) M hg hc (fun a1 a2 a3 a4 => ?_) (fun a1 => ?_) (fun a1 a2 a3 => ?_)
  · rw [if_pos (by first | assumption | omega | exact ⟨a1, a2, a3, a4⟩)] at k
    exact k
  · rw [if_neg (by first | omega | assumption | (intro q; exact absurd q (by assumption))), if_pos (by first | assumption | omega | exact ⟨a1⟩)] at k
    exact k
  · rw [if_neg (by first | omega | assumption | (intro q; exact absurd q (by assumption))), if_neg (by first | omega | assumption | (intro q; exact absurd q (by assumption)))] at k
    exact k
theorem r_gets {g c : Int} (hd : 12 ≤ d) (M : MR_ h z) (hg : inI g) (hc : inI c) (k : MK_ Q h (op_gets z g c).2.2 (op_gets z g c).1 (op_gets z g c).2.1) : Cl_ yX9_gets MX9_gets d bc bs [(2, 196), (0, g), (0, c)] nN h Q := by
  unfold op_gets at k
  refine c_X9_gets (by omega) M hg hc (fun a1 a2 a3 a4 => ?_) (fun a1 => ?_) (fun a1 a2 a3 => ?_)
  · rw [if_pos (by first | assumption | omega | exact ⟨a1, a2, a3, a4⟩)] at k
    exact k
  · rw [if_neg (by first | omega | assumption | (intro q; exact absurd q (by assumption))), if_pos (by first | assumption | omega | exact ⟨a1⟩)] at k
    exact k
  · rw [if_neg (by first | omega | assumption | (intro q; exact absurd q (by assumption))), if_neg (by first | omega | assumption | (intro q; exact absurd q (by assumption)))] at k
    exact k
theorem r_classed {c v : Int} (hd : 12 ≤ d) (M : MR_ h z) (hc : inI c) (hv : inI v) (k : MK_ Q h (op_classed z c v).2.2 (op_classed z c v).1 (op_classed z c v).2.1) : Cl_ yX9_classed MX9_classed d bc bs [(2, 196), (0, c), (0, v)] nN h Q := by
  unfold op_classed at k
  refine c_X9_classed (by omega) M hc hv (fun a1 a2 a3 a4 => ?_) (fun a1 => ?_) (fun a1 a2 a3 => ?_)
  · rw [if_pos (by first | assumption | omega | exact ⟨a1, a2, a3, a4⟩)] at k
    exact k
  · rw [if_neg (by first | omega | assumption | (intro q; exact absurd q (by assumption))), if_pos (by first | assumption | omega | exact ⟨a1⟩)] at k
    exact k
  · rw [if_neg (by first | omega | assumption | (intro q; exact absurd q (by assumption))), if_neg (by first | omega | assumption | (intro q; exact absurd q (by assumption)))] at k
    exact k
theorem r_itself {g : Int} (hd : 12 ≤ d) (M : MR_ h z) (hg : inI g) (k : MK_ Q h (op_itself z g).2.2 (op_itself z g).1 (op_itself z g).2.1) : Cl_ yX9_itself MX9_itself d bc bs [(2, 196), (0, g)] nN h Q := by
  unfold op_itself at k
  refine c_X9_itself (by omega) M hg (fun a1 a2 a3 => ?_) (fun a1 => ?_) (fun a1 a2 a3 => ?_)
  · rw [if_pos (by first | assumption | omega | exact ⟨a1, a2, a3⟩)] at k
    exact k
  · rw [if_neg (by first | omega | assumption | (intro q; exact absurd q (by assumption))), if_pos (by first | assumption | omega | exact ⟨a1⟩)] at k
    exact k
  · rw [if_neg (by first | omega | assumption | (intro q; exact absurd q (by assumption))), if_neg (by first | omega | assumption | (intro q; exact absurd q (by assumption)))] at k
    exact k
theorem r_leastDebt {c : Int} (hd : 12 ≤ d) (M : MR_ h z) (hc : inI c) (k : MK_ Q h (op_leastDebt z c).2.2 (op_leastDebt z c).1 (op_leastDebt z c).2.1) : Cl_ yX9_leastDebt MX9_leastDebt d bc bs [(2, 196), (0, c)] nN h Q := by
  unfold op_leastDebt at k
  refine c_X9_leastDebt (by omega) M hc (fun a1 a2 => ?_) (fun a1 => ?_)
  · rw [if_pos (by first | assumption | omega | exact ⟨a1, a2⟩)] at k
    exact k
  · rw [if_neg (by first | omega | assumption | (intro q; exact absurd q (by assumption)))] at k
    exact k
theorem r_needed {c : Int} (hd : 12 ≤ d) (M : MR_ h z) (hc : inI c) (k : MK_ Q h (op_needed z c).2.2 (op_needed z c).1 (op_needed z c).2.1) : Cl_ yX9_needed MX9_needed d bc bs [(2, 196), (0, c)] nN h Q := by
  unfold op_needed at k
  refine c_X9_needed (by omega) M hc (fun a1 a2 => ?_) (fun a1 => ?_)
  · rw [if_pos (by first | assumption | omega | exact ⟨a1, a2⟩)] at k
    exact k
  · rw [if_neg (by first | omega | assumption | (intro q; exact absurd q (by assumption)))] at k
    exact k
theorem r_part {g : Int} (hd : 12 ≤ d) (M : MR_ h z) (hg : inI g) (k : MK_ Q h (op_part z g).2.2 (op_part z g).1 (op_part z g).2.1) : Cl_ yX9_part MX9_part d bc bs [(2, 196), (0, g)] nN h Q := by
  unfold op_part at k
  refine c_X9_part (by omega) M hg (fun a1 a2 => ?_) (fun a1 => ?_)
  · rw [if_pos (by first | assumption | omega | exact ⟨a1, a2⟩)] at k
    exact k
  · rw [if_neg (by first | omega | assumption | (intro q; exact absurd q (by assumption)))] at k
    exact k
theorem r_left {t : Int} (hd : 12 ≤ d) (M : MR_ h z) (ht : inI t) (k : MK_ Q h (op_left z t).2.2 (op_left z t).1 (op_left z t).2.1) : Cl_ yX9_left MX9_left d bc bs [(2, 196), (0, t)] nN h Q := by
  unfold op_left at k
  refine c_X9_left (by omega) M ht (fun a1 a2 => ?_) (fun a1 => ?_)
  · rw [if_pos (by first | assumption | omega | exact ⟨a1, a2⟩)] at k
    exact k
  · rw [if_neg (by first | omega | assumption | (intro q; exact absurd q (by assumption)))] at k
    exact k
theorem r_takes {g p : Int} (hd : 12 ≤ d) (M : MR_ h z) (hg : inI g) (hp : inI p) (k : MK_ Q h (op_takes z g p).2.2 (op_takes z g p).1 (op_takes z g p).2.1) : Cl_ yX9_takes MX9_takes d bc bs [(2, 196), (0, g), (0, p)] nN h Q := by
  unfold op_takes at k
  refine c_X9_takes (by omega) M hg hp (fun a1 a2 a3 a4 => ?_) (fun a1 => ?_)
  · rw [if_pos (by first | assumption | omega | exact ⟨a1, a2, a3, a4⟩)] at k
    exact k
  · rw [if_neg (by first | omega | assumption | (intro q; exact absurd q (by assumption)))] at k
    exact k
theorem r_taken {p v : Int} (hd : 12 ≤ d) (M : MR_ h z) (hp : inI p) (hv : inI v) (k : MK_ Q h (op_taken z p v).2.2 (op_taken z p v).1 (op_taken z p v).2.1) : Cl_ yX9_taken MX9_taken d bc bs [(2, 196), (0, p), (0, v)] nN h Q := by
  unfold op_taken at k
  refine c_X9_taken (by omega) M hp hv (fun a1 a2 a3 a4 => ?_) (fun a1 => ?_) (fun a1 a2 a3 => ?_)
  · rw [if_pos (by first | assumption | omega | exact ⟨a1, a2, a3, a4⟩)] at k
    exact k
  · rw [if_neg (by first | omega | assumption | (intro q; exact absurd q (by assumption))), if_pos (by first | assumption | omega | exact ⟨a1⟩)] at k
    exact k
  · rw [if_neg (by first | omega | assumption | (intro q; exact absurd q (by assumption))), if_neg (by first | omega | assumption | (intro q; exact absurd q (by assumption)))] at k
    exact k
theorem r_stock {x v : Int} (hd : 12 ≤ d) (M : MR_ h z) (hp : inI x) (hv : inI v) (k : MK_ Q h (op_stock z x v).2.2 (op_stock z x v).1 (op_stock z x v).2.1) : Cl_ yX9_stock MX9_stock d bc bs [(2, 196), (0, x), (0, v)] nN h Q := by
  unfold op_stock at k
  refine c_X9_stock (by omega) M hp hv (fun a1 a2 => ?_) (fun a1 => ?_)
  · rw [if_pos (by first | assumption | omega | exact ⟨a1, a2⟩)] at k
    exact k
  · rw [if_neg (by first | omega | assumption | (intro q; exact absurd q (by assumption)))] at k
    exact k
theorem r_ifDead {p t : Int} (hd : 12 ≤ d) (M : MR_ h z) (hp : inI p) (ht : inI t) (k : MK_ Q h (op_ifDead z p t).2.2 (op_ifDead z p t).1 (op_ifDead z p t).2.1) : Cl_ yX9_ifDead MX9_ifDead d bc bs [(2, 196), (0, p), (0, t)] nN h Q := by
  unfold op_ifDead at k
  refine c_X9_ifDead (by omega) M hp ht (fun a1 a2 a3 a4 a5 => ?_) (fun a1 => ?_) (fun a1 a2 a3 a4 a5 => ?_)
  · rw [if_pos (by first | assumption | omega | exact ⟨a1, a2, a3, a4, a5⟩)] at k
    exact k
  · rw [if_neg (by first | omega | assumption | (intro q; exact absurd q (by assumption))), if_pos (by first | assumption | omega | exact ⟨a1⟩)] at k
    exact k
  · rw [if_neg (by first | omega | assumption | (intro q; exact absurd q (by assumption))), if_neg (by first | omega | assumption | (intro q; exact absurd q (by assumption)))] at k
    exact k
theorem r_ifSold {p t v e : Int} (hd : 12 ≤ d) (M : MR_ h z) (hp : inI p) (ht : inI t) (hv : inI v) (he : inI e) (k : MK_ Q h (op_ifSold z p t v e).2.2 (op_ifSold z p t v e).1 (op_ifSold z p t v e).2.1) : Cl_ yX9_ifSold MX9_ifSold d bc bs [(2, 196), (0, p), (0, t), (0, v), (0, e)] nN h Q := by
  unfold op_ifSold at k
  refine c_X9_ifSold (by omega) M hp ht hv he (fun a1 a2 a3 a4 a5 a6 a7 => ?_) (fun a1 => ?_) (fun a1 a2 a3 a4 a5 => ?_) (fun a1 a2 a3 a4 a5 a6 => ?_)
  · rw [if_pos (by first | assumption | omega | exact ⟨a1, a2, a3, a4, a5, a6, a7⟩)] at k
    exact k
  · rw [if_neg (by first | omega | assumption | (intro q; exact absurd q (by assumption))), if_pos (by first | assumption | omega | exact ⟨a1⟩)] at k
    exact k
  · rw [if_neg (by first | omega | assumption | (intro q; exact absurd q (by assumption))), if_neg (by first | omega | assumption | (intro q; exact absurd q (by assumption))), if_pos (by first | assumption | omega | exact ⟨a1, a2, a3, a4, a5⟩)] at k
    exact k
  · rw [if_neg (by first | omega | assumption | (intro q; exact absurd q (by assumption))), if_neg (by first | omega | assumption | (intro q; exact absurd q (by assumption))), if_neg (by first | omega | assumption | (intro q; exact absurd q (by assumption)))] at k
    exact k
theorem r_ifDebt {p v : Int} (hd : 12 ≤ d) (M : MR_ h z) (hp : inI p) (hv : inI v) (k : MK_ Q h (op_ifDebt z p v).2.2 (op_ifDebt z p v).1 (op_ifDebt z p v).2.1) : Cl_ yX9_ifDebt MX9_ifDebt d bc bs [(2, 196), (0, p), (0, v)] nN h Q := by
  unfold op_ifDebt at k
  refine c_X9_ifDebt (by omega) M hp hv (fun a1 a2 a3 a4 => ?_) (fun a1 => ?_) (fun a1 a2 a3 => ?_)
  · rw [if_pos (by first | assumption | omega | exact ⟨a1, a2, a3, a4⟩)] at k
    exact k
  · rw [if_neg (by first | omega | assumption | (intro q; exact absurd q (by assumption))), if_pos (by first | assumption | omega | exact ⟨a1⟩)] at k
    exact k
  · rw [if_neg (by first | omega | assumption | (intro q; exact absurd q (by assumption))), if_neg (by first | omega | assumption | (intro q; exact absurd q (by assumption)))] at k
    exact k
theorem r_ifRenounced {p g : Int} (hd : 12 ≤ d) (M : MR_ h z) (hp : inI p) (hg : inI g) (k : MK_ Q h (op_ifRenounced z p g).2.2 (op_ifRenounced z p g).1 (op_ifRenounced z p g).2.1) : Cl_ yX9_ifRenounced MX9_ifRenounced d bc bs [(2, 196), (0, p), (0, g)] nN h Q := by
  unfold op_ifRenounced at k
  refine c_X9_ifRenounced (by omega) M hp hg (fun a1 a2 a3 a4 => ?_) (fun a1 => ?_)
  · rw [if_pos (by first | assumption | omega | exact ⟨a1, a2, a3, a4⟩)] at k
    exact k
  · rw [if_neg (by first | omega | assumption | (intro q; exact absurd q (by assumption)))] at k
    exact k
theorem r_ifHeld {g : Int} (hd : 12 ≤ d) (M : MR_ h z) (hg : inI g) (k : MK_ Q h (op_ifHeld z g).2.2 (op_ifHeld z g).1 (op_ifHeld z g).2.1) : Cl_ yX9_ifHeld MX9_ifHeld d bc bs [(2, 196), (0, g)] nN h Q := by
  unfold op_ifHeld at k
  refine c_X9_ifHeld (by omega) M hg (fun a1 a2 a3 => ?_) (fun a1 => ?_) (fun a1 a2 a3 => ?_)
  · rw [if_pos (by first | assumption | omega | exact ⟨a1, a2, a3⟩)] at k
    exact k
  · rw [if_neg (by first | omega | assumption | (intro q; exact absurd q (by assumption))), if_pos (by first | assumption | omega | exact ⟨a1⟩)] at k
    exact k
  · rw [if_neg (by first | omega | assumption | (intro q; exact absurd q (by assumption))), if_neg (by first | omega | assumption | (intro q; exact absurd q (by assumption)))] at k
    exact k
theorem r_envied {p : Int} (hd : 12 ≤ d) (M : MR_ h z) (hp : inI p) (k : MK_ Q h (op_envied z p).2.2 (op_envied z p).1 (op_envied z p).2.1) : Cl_ yX9_envied MX9_envied d bc bs [(2, 196), (0, p)] nN h Q := by
  unfold op_envied at k
  refine c_X9_envied (by omega) M hp (fun a1 a2 => ?_) (fun a1 => ?_)
  · rw [if_pos (by first | assumption | omega | exact ⟨a1, a2⟩)] at k
    exact k
  · rw [if_neg (by first | omega | assumption | (intro q; exact absurd q (by assumption)))] at k
    exact k
theorem r_write {p : Int} (hd : 12 ≤ d) (M : MR_ h z) (hp : inI p) (k : MK_ Q h (op_write z p).2.2 (op_write z p).1 (op_write z p).2.1) : Cl_ yX9_write MX9_write d bc bs [(2, 196), (0, p)] nN h Q := by
  unfold op_write at k
  refine c_X9_write (by omega) M hp (fun a1 a2 => ?_) (fun a1 => ?_)
  · rw [if_pos (by first | assumption | omega | exact ⟨a1, a2⟩)] at k
    exact k
  · rw [if_neg (by first | omega | assumption | (intro q; exact absurd q (by assumption)))] at k
    exact k
theorem r_feed {a b c e g : Int} (hd : 12 ≤ d) (M : MR_ h z) (ha : inI a) (hb : inI b) (hc : inI c) (he : inI e) (hg : inI g) (k : MK_ Q h (op_feed z a b c e g).2.2 (op_feed z a b c e g).1 (op_feed z a b c e g).2.1) : Cl_ yX9_feed MX9_feed d bc bs [(2, 196), (0, a), (0, b), (0, c), (0, e), (0, g)] nN h Q := by
  unfold op_feed at k
  refine c_X9_feed M ha hb hc he hg (fun a1 => ?_) (fun a1 => ?_)
  · rw [if_pos (by first | assumption | omega | exact ⟨a1⟩)] at k
    exact k
  · rw [if_neg (by first | omega | assumption | (intro q; exact absurd q (by assumption)))] at k
    exact k
theorem r_end {n : Int} (hd : 12 ≤ d) (M : MR_ h z) (hn : inI n) (k : MK_ Q h (op_end z n).2.2 (op_end z n).1 (op_end z n).2.1) : Cl_ yX9_end MX9_end d bc bs [(2, 196), (0, n)] nN h Q := by
  unfold op_end at k
  refine c_X9_end M hn (fun a1 a2 => ?_) (fun a1 => ?_)
  · rw [if_pos (by first | assumption | omega | exact ⟨a1, a2⟩)] at k
    exact k
  · rw [if_neg (by first | omega | assumption | (intro q; exact absurd q (by assumption)))] at k
    exact k
theorem r_fault (hd : 12 ≤ d) (M : MR_ h z) (k : MK_ Q h (op_fault z).2.2 (op_fault z).1 (op_fault z).2.1) : Cl_ yX9_fault MX9_fault d bc bs [(2, 196)] nN h Q := by
  unfold op_fault at k
  refine c_X9_fault M (?_)
  · exact k
theorem r_undo (hd : 12 ≤ d) (M : MR_ h z) (k : MK_ Q h (op_undo z).2.2 (op_undo z).1 (op_undo z).2.1) : Cl_ yX9_undo MX9_undo d bc bs [(2, 196)] nN h Q := by
  unfold op_undo at k
  refine c_X9_undo M (fun a1 => ?_) (fun a1 => ?_)
  · rw [if_pos (by first | assumption | omega | exact ⟨a1⟩)] at k
    exact k
  · rw [if_neg (by first | omega | assumption | (intro q; exact absurd q (by assumption)))] at k
    exact k
theorem r_heir {v : Int} (hd : 12 ≤ d) (M : MR_ h z) (hv : inI v) (k : MK_ Q h (op_heir z v).2.2 (op_heir z v).1 (op_heir z v).2.1) : Cl_ yX9_heir MX9_heir d bc bs [(2, 196), (0, v)] nN h Q := by
  unfold op_heir at k
  refine c_X9_heir (by omega) M hv (?_)
  · exact k
theorem r_ranked {v : Int} (hd : 12 ≤ d) (M : MR_ h z) (hv : inI v) (k : MK_ Q h (op_ranked z v).2.2 (op_ranked z v).1 (op_ranked z v).2.1) : Cl_ yX9_ranked MX9_ranked d bc bs [(2, 196), (0, v)] nN h Q := by
  unfold op_ranked at k
  refine c_X9_ranked (by omega) M hv (?_)
  · exact k
theorem r_octet {v : Int} (hd : 12 ≤ d) (M : MR_ h z) (hv : inI v) (k : MK_ Q h (op_octet z v).2.2 (op_octet z v).1 (op_octet z v).2.1) : Cl_ yX9_octet MX9_octet d bc bs [(2, 196), (0, v)] nN h Q := by
  unfold op_octet at k
  refine c_X9_octet (by omega) M hv (?_)
  · exact k
theorem r_count {v : Int} (hd : 12 ≤ d) (M : MR_ h z) (hv : inI v) (k : MK_ Q h (op_count z v).2.2 (op_count z v).1 (op_count z v).2.1) : Cl_ yX9_count MX9_count d bc bs [(2, 196), (0, v)] nN h Q := by
  unfold op_count at k
  refine c_X9_count (by omega) M hv (?_)
  · exact k
end OPR
/-- the reference's cells are as they were, and what the law holds beside them may have changed -/
def FL (h h' : PH) : Prop := ∀ x y : Int, 196 ≤ x → x ≠ 224 → h' x y = h x y
theorem cr_lo {h h' z : PH} (C : CR_ h z) (hG : G h') (e : ∀ x y : Int, x < 196 → h' x y = h x y) : CR_ h' z := by
  obtain ⟨-, c1, c2, c3, c4, c5, c6, c7, c8, c9, c10⟩ := C
  have hT := c1.2.1
  have hP := c1.2.2.1
  have e3 : h' 0 3 = h 0 3 := e 0 3 (by omega)
  have w3 : h 0 3 = 3 ∨ h 0 3 = 42 := by omega
  refine ⟨hG, c1, c2, by rw [e3, e 2 0 (by omega)]; exact c3, ?_, ?_, ⟨by rw [e _ _ (by omega)]; exact c6.1, fun k a b => by rw [e _ _ (by omega)]; exact c6.2 k a b⟩, by rw [e _ _ (by omega)]; exact c7, ?_, ?_, ?_⟩
  · rw [e3]
    exact PR_to c4 (fun x k a b => e x k (by omega)) (fun k => e _ _ (by omega))
  · rw [e3]
    refine ⟨fun t a b => ?_, fun t a b => ?_⟩
    · have q := c5.1 t a b
      refine ⟨by rw [e _ _ (by omega)]; exact q.1, fun j j0 j1 => ?_⟩
      rw [e _ _ (by omega)]
      exact q.2 j j0 j1
    · have q := c5.2 t a b
      refine ⟨by rw [e _ _ (by omega)]; exact q.1, fun j j0 j1 => ?_⟩
      rw [e _ _ (by omega)]
      exact q.2 j j0 j1
  · obtain ⟨a1, a2, a3⟩ := c8
    refine ⟨by rw [e _ _ (by omega)]; exact a1, by rw [e _ _ (by omega)]; exact a2, fun j k j0 j1 k0 k1 => ?_⟩
    rw [e 81 1 (by omega), e _ _ (by omega)]
    exact a3 j k j0 j1 k0 k1
  · obtain ⟨a1, a2, a3, a4, a5, a6⟩ := c9
    have F : ∀ y : Int, h' 195 y = h 195 y := fun y => e 195 y (by omega)
    exact ⟨by rw [F]; exact a1, fun k p q => by rw [F]; exact a2 k p q, by rw [F]; exact a3, by rw [F]; exact a4, by rw [F]; exact a5, by rw [F]; exact a6⟩
  · rw [CD_, e 0 7 (by omega), e3]
    refine ⟨c10.1, fun q => ?_⟩
    obtain ⟨a1, a2⟩ := c10.2 q
    exact ⟨by rw [e _ _ (by omega)]; exact a1, RD_to a2 c1 (fun x k a b => e x k (by omega))⟩
theorem b5_lo {h h' : PH} (B : B5_ h) (e : ∀ y : Int, h' 195 y = h 195 y) : B5_ h' := by
  obtain ⟨⟨b1, b2⟩, ⟨b3, b4⟩, b5⟩ := B
  refine ⟨⟨by rw [e]; exact b1, by rw [e]; exact b2⟩, ⟨by rw [e]; exact b3, by rw [e, e]; exact b4⟩, fun k p q => ?_⟩
  rw [e] at q ⊢
  exact b5 k p q
theorem mr_hi {h h' z : PH} (M : MR_ h z) (hG : G h') (f : FL h h') : MR_ h' z := mr_to M hG (fun x k p => f x k (by unfold pc_ at p; omega) (by unfold pc_ at p; omega))
def i3_ (a : Int) : Int := (Int32.ofInt a).toInt
theorem i3_in (a : Int) : inI (i3_ a) := ⟨by have := (Int32.ofInt a).le_toInt; unfold i3_; omega, by have := (Int32.ofInt a).toInt_lt; unfold i3_; omega⟩
theorem i3_id {a : Int} (h : inI a) : i3_ a = a := inI_to h
section LWR
variable {E : EP} {M : PM} {d bc bs : Nat} {Q : PQ} {pc : Nat} {L st : List PV} {N : Nat} {h : PH}
theorem s_i2lW {x : Int} (hd : decode M.2.1 pc = .ok (.i2l, 1)) (k : SE_ E M d bc bs Q (pc + 1) L ((1, i3_ x) :: st) N h) : SE_ E M d bc bs Q pc L ((0, x) :: st) N h := by
  intro l s0 D dA ad p e R s m args below meth c H locs cells slots mc ms ls hG hC hW hL
  refine lv_i2l (cx_ex hC) (cx_cb hC) hd (v := Int64.ofInt (i3_ x)) ?_ (k l s0 D dA ad p e R s m args below meth c H locs cells slots mc ms ls hG hC hW hL)
  show (Int32.ofInt x).toInt64 = _
  rw [← Int64.toInt_inj, Int32.toInt_toInt64, inL_to (inI_L (i3_in x))]
  rfl
theorem s_icmp_eqS {x : Int} {off : Int} {tgt : Nat} (hd : decode M.2.1 pc = .ok (.if_icmp .eq off, 3)) (ht : (pc : Int) + off = (tgt : Int)) (k : SE_ E M d bc bs Q tgt L st N h) : SE_ E M d bc bs Q pc L ((0, x) :: (0, x) :: st) N h :=
  fun l s0 D dA ad p e R s m args below meth c H locs cells slots mc ms ls hG hC hW hL => lv_icmp_eq (cx_ex hC) (cx_cb hC) hd ht (fun _ => k l s0 D dA ad p e R s m args below meth c H locs cells slots mc ms ls hG hC hW hL) (fun a => absurd rfl a)
end LWR
/-- what one of the law's methods that catch owes: which exception; what was answered -/
def MKC_ (Q : PQ) (h z : PH) (th a : Int) : Prop := ∀ h' : PH, CR_ h' z → B5_ h' → FL h h' → (th = 0 → h' 224 0 = i3_ a) → Q.1 (some (0, th)) nN h'
theorem fl_put {h h1 : PH} (f : ∀ x y : Int, 196 ≤ x → h1 x y = h x y) (v : Int) : FL h (hs_ h1 224 0 v) := fun x y a b => by rw [hs_ne _ (fun q => b q.1)]; exact f x y a
theorem fl_id {h h1 : PH} (f : ∀ x y : Int, 196 ≤ x → h1 x y = h x y) : FL h h1 := fun x y a _ => f x y a
theorem cr_put {h z : PH} {v : Int} (C : CR_ h z) (hG : G (hs_ h 224 0 v)) : CR_ (hs_ h 224 0 v) z := cr_lo C hG (fun x y a => hs_ne _ (fun q => by omega))
theorem b5_put {h : PH} {v : Int} (B : B5_ h) : B5_ (hs_ h 224 0 v) := b5_lo B (fun y => hs_ne _ (fun q => by omega))
theorem pn_L : plainName RL = true := by decide +kernel
theorem io_224 : isA nN 224 3 1 := ⟨by decide, by decide, by decide +kernel, by decide⟩
def EX_ (Q : PQ) (l : List (String × Int)) : String → Nat → PH → Prop := fun E9 N' h' => N' = nN ∧ ∃ K : Int, (E9, K) ∈ l ∧ Q.1 (some (0, K)) nN h'
