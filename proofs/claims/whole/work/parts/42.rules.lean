/-! more rules: a branch on a number that may have wrapped; sums -/
section RULES6
variable {E : EP} {M : PM} {d bc bs : Nat} {Q : PQ} {pc : Nat} {L st : List PV} {N : Nat} {h : PH}
theorem s_if_neW {x : Int} {off : Int} {tgt : Nat} (hd : decode M.2.1 pc = .ok (.ifCond .ne off, 3)) (ht : (pc : Int) + off = (tgt : Int)) (kt : ¬ x % 4294967296 = 0 → SE_ E M d bc bs Q tgt L st N h) (kf : x % 4294967296 = 0 → SE_ E M d bc bs Q (pc + 3) L st N h) : SE_ E M d bc bs Q pc L ((0, x) :: st) N h :=
  fun l s0 D dA ad p e R s m args below meth c H locs cells slots mc ms ls hG hC hW hL => lv_if_ne (cx_ex hC) (cx_cb hC) hd ht (fun a => kt (fun z => a (w32_0.mpr z)) l s0 D dA ad p e R s m args below meth c H locs cells slots mc ms ls hG hC hW hL) (fun a => kf (w32_0.mp a) l s0 D dA ad p e R s m args below meth c H locs cells slots mc ms ls hG hC hW hL)
end RULES6
theorem ci_up {pa lv : Int → Int} {q i : Int} (h : q < i) : ci__ pa lv q (q + 1) (i + 1 - q - 1).toNat = ci__ pa lv q (q + 1) (i - q - 1).toNat + (if pa i = q ∧ 0 < lv i then 1 else 0) := by
  unfold ci__
  rw [show (i + 1 - q - 1).toNat = (i - q - 1).toNat + 1 by omega, sumI_snoc]
  rw [show q + 1 + ((i - q - 1).toNat : Int) = i by omega]
