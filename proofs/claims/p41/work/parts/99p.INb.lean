/-! what all holds when all is made -/
/-- a fresh place of a cell -/
def df_ (x y : Int) : Int := if (sh_ x.toNat).1 ≤ 3 then 0 else if (sh_ x.toNat).1 ≤ 5 then -1 else if (sh_ x.toNat).1 = 14 then 0 else if 0 ≤ y ∧ y.toNat < (sh_ x.toNat).2 ∧ fk_ (fty_ ((sh_ x.toNat).1 - 6) y.toNat) = 2 then -1 else 0
abbrev HL : Type := List (Int × List (Int × Int))
def lk_ (l : List (Int × Int)) (x y : Int) : Int := (l.lookup y).getD (df_ x y)
def hT_ : HL := [(0, [(10, 195), (9, 148), (8, 146), (7, 1), (6, 99), (5, 81), (4, 79), (3, 42), (2, 2), (0, 1)]), (2, [(3, 1), (2, -1), (1, 40), (0, 3)]), (3, [(12, 39), (11, 38), (10, 37), (9, 36), (8, 35), (6, 34), (5, 33), (4, 32), (3, 17), (2, 16), (1, 15), (0, 4)]), (4, [(2, 6), (0, 5)]), (6, [(0, 7), (1, 8), (2, 9), (3, 10), (4, 11), (5, 12), (6, 13), (7, 14)]), (17, [(2, 19), (0, 18)]), (19, [(0, 20), (1, 21), (2, 22), (3, 23), (4, 24), (5, 25), (6, 26), (7, 27), (8, 28), (9, 29), (10, 30), (11, 31)]), (40, [(0, 41)]), (41, [(59, 5)]), (42, [(12, 78), (11, 77), (10, 76), (9, 75), (8, 74), (6, 73), (5, 72), (4, 71), (3, 56), (2, 55), (1, 54), (0, 43)]), (43, [(2, 45), (0, 44)]), (45, [(0, 46), (1, 47), (2, 48), (3, 49), (4, 50), (5, 51), (6, 52), (7, 53)]), (56, [(2, 58), (0, 57)]), (58, [(0, 59), (1, 60), (2, 61), (3, 62), (4, 63), (5, 64), (6, 65), (7, 66), (8, 67), (9, 68), (10, 69), (11, 70)]), (79, [(0, 80)]), (80, [(59, 5)]), (81, [(0, 82)]), (82, [(0, 83), (1, 84), (2, 85), (3, 86), (4, 87), (5, 88), (6, 89), (7, 90), (8, 91), (9, 92), (10, 93), (11, 94), (12, 95), (13, 96), (14, 97), (15, 98)]), (99, [(15, 79), (14, 42), (18, 145), (17, 144), (16, 143), (6, 142), (5, 129), (4, 116), (3, 103), (2, 102), (1, 101), (0, 100)]), (103, [(0, 104), (1, 105), (2, 106), (3, 107), (4, 108), (5, 109), (6, 110), (7, 111), (8, 112), (9, 113), (10, 114), (11, 115)]), (116, [(0, 117), (1, 118), (2, 119), (3, 120), (4, 121), (5, 122), (6, 123), (7, 124), (8, 125), (9, 126), (10, 127), (11, 128)]), (129, [(0, 130), (1, 131), (2, 132), (3, 133), (4, 134), (5, 135), (6, 136), (7, 137), (8, 138), (9, 139), (10, 140), (11, 141)]), (146, [(0, 147)]), (147, [(59, 5)]), (148, [(15, 146), (14, 42), (18, 194), (17, 193), (16, 192), (6, 191), (5, 178), (4, 165), (3, 152), (2, 151), (1, 150), (0, 149)]), (152, [(0, 153), (1, 154), (2, 155), (3, 156), (4, 157), (5, 158), (6, 159), (7, 160), (8, 161), (9, 162), (10, 163), (11, 164)]), (165, [(0, 166), (1, 167), (2, 168), (3, 169), (4, 170), (5, 171), (6, 172), (7, 173), (8, 174), (9, 175), (10, 176), (11, 177)]), (178, [(0, 179), (1, 180), (2, 181), (3, 182), (4, 183), (5, 184), (6, 185), (7, 186), (8, 187), (9, 188), (10, 189), (11, 190)]), (195, [(1, 0), (0, 196)]), (198, [(-1, 16)])]
def hF : PH := fun x y => lk_ ((hT_.lookup x).getD []) x y
/-- .. but for cells that are being made -/
def hI_ (ls : HL) : PH := fun x y => match ls.lookup x with
  | some l => lk_ l x y
  | none => hF x y
theorem hi_hd {ls : HL} {a : Int} {l : List (Int × Int)} (y : Int) : hI_ ((a, l) :: ls) a y = lk_ l a y := by
  unfold hI_
  rw [List.lookup_cons_self]
theorem hi_tl {ls : HL} {a x : Int} {l : List (Int × Int)} (e : x ≠ a) : hI_ ((a, l) :: ls) x = hI_ ls x := by
  funext y
  unfold hI_
  rw [List.lookup_cons, show (x == a) = false from by simpa using e]
theorem lk_put {l : List (Int × Int)} {a k v y : Int} : lk_ ((k, v) :: l) a y = if y = k then v else lk_ l a y := by
  unfold lk_
  by_cases e : y = k
  · subst e
    rw [List.lookup_cons_self, if_pos rfl]
    rfl
  · rw [List.lookup_cons, show (y == k) = false from by simpa using e, if_neg e]
theorem hi_new {ls : HL} {N : Nat} {a : Int} {l : List (Int × Int)} (ha : (N : Int) = a) : ∀ x : Nat, x < N → hI_ ((a, l) :: ls) x = hI_ ls x := fun x hx => hi_tl (by omega)
theorem hk_put {ls : HL} {a k v : Int} {l : List (Int × Int)} : hs_ (hI_ ((a, l) :: ls)) a k v = hI_ ((a, (k, v) :: l) :: ls) := by
  funext x y
  by_cases e : x = a
  · subst e
    rw [hi_hd, lk_put]
    unfold hs_
    rw [if_pos rfl, hi_hd]
  · rw [hs_ne _ (fun z => e z.1), hi_tl e, hi_tl e]
theorem hk_put2 {ls : HL} {a b k v : Int} {l l' : List (Int × Int)} (e : a ≠ b) : hs_ (hI_ ((b, l') :: (a, l) :: ls)) a k v = hI_ ((b, l') :: (a, (k, v) :: l) :: ls) := by
  funext x y
  by_cases c : x = b
  · subst c
    rw [hs_ne _ (fun z => e z.1.symm), hi_hd, hi_hd]
  · rw [hi_tl c, ← hk_put]
    unfold hs_
    rw [hi_tl c]
theorem hi_close {ls : HL} {a : Int} {l : List (Int × Int)} (h1 : ls.lookup a = none) (h2 : (hT_.lookup a).getD [] = l) : hI_ ((a, l) :: ls) = hI_ ls := by
  funext x y
  by_cases c : x = a
  · subst c
    rw [hi_hd]
    unfold hI_
    rw [h1]
    show lk_ l x y = hF x y
    unfold hF
    rw [h2]
  · rw [hi_tl c]
theorem hi_at {ls : HL} {a : Int} {l : List (Int × Int)} (h1 : ls.lookup a = none) (h2 : (hT_.lookup a).getD [] = l) (y : Int) : hI_ ls a y = lk_ l a y := by
  rw [← hi_close h1 h2, hi_hd]
theorem lk_nil (x y : Int) : lk_ [] x y = df_ x y := rfl
theorem df_arr {N n t : Nat} {a : Int} (ha : (N : Int) = a) (hs : sh_ N = (t, n)) (ht : t ≤ 3) (y : Int) : df_ a y = 0 := by
  subst ha
  unfold df_
  rw [Int.toNat_natCast, hs, if_pos ht]
theorem df_obj {N ci : Nat} {a : Int} (ha : (N : Int) = a) (hs : sh_ N = (ci + 6, uN_ ci)) (h8 : ci ≠ 8) {k : Nat} (hk : k < uN_ ci) : df_ a k = dz_ ci k := by
  subst ha
  unfold df_ dz_
  rw [Int.toNat_natCast, hs, if_neg (by show ¬ ci + 6 ≤ 3; omega), if_neg (by show ¬ ci + 6 ≤ 5; omega), if_neg (by show ¬ ci + 6 = 14; omega)]
  show (if 0 ≤ (k : Int) ∧ (k : Int).toNat < uN_ ci ∧ fk_ (fty_ (ci + 6 - 6) (k : Int).toNat) = 2 then (-1 : Int) else 0) = _
  rw [Int.toNat_natCast, Nat.add_sub_cancel]
  by_cases c : fk_ (fty_ ci k) = 2
  · rw [if_pos ⟨by omega, hk, c⟩, if_pos c]
  · rw [if_neg (fun z => c z.2.2), if_neg c]

theorem nf_0 : ∀ k, k < uN_ 0 → nofl_ (fty_ 0 k) = true := by decide +kernel
theorem nf_1 : ∀ k, k < uN_ 1 → nofl_ (fty_ 1 k) = true := by decide +kernel
theorem nf_2 : ∀ k, k < uN_ 2 → nofl_ (fty_ 2 k) = true := by decide +kernel
theorem nf_3 : ∀ k, k < uN_ 3 → nofl_ (fty_ 3 k) = true := by decide +kernel
theorem nf_4 : ∀ k, k < uN_ 4 → nofl_ (fty_ 4 k) = true := by decide +kernel
theorem nf_5 : ∀ k, k < uN_ 5 → nofl_ (fty_ 5 k) = true := by decide +kernel
theorem nf_6 : ∀ k, k < uN_ 6 → nofl_ (fty_ 6 k) = true := by decide +kernel
theorem nf_7 : ∀ k, k < uN_ 7 → nofl_ (fty_ 7 k) = true := by decide +kernel
theorem nf_9 : ∀ k, k < uN_ 9 → nofl_ (fty_ 9 k) = true := by decide +kernel
section NEWI
variable {E : EP} {M M' : PM} {d d' bc bs b1 s1 bc' bs' n : Nat} {Q : PQ} {pc idx : Nat} {L st stk as : List PV} {N N' : Nat} {ls : HL} {a : Int}
theorem SE_use {N1 b9 s9 : Nat} (h1 : N1 = N) (h2 : b9 = bc) (h3 : s9 = bs) {h : PH} (k : SE_ E M d bc bs Q pc L st N h) : SE_ E M d b9 s9 Q pc L st N1 h := by
  subst h1 h2 h3
  exact k
theorem r_newc {ci : Nat} (hd : decode M.2.1 pc = .ok (.new idx, 3)) (hw : Cond.classLink M.1 idx (uC_ ci) ∈ TBL ∧ Cond.instantiable (uC_ ci) (uN_ ci) ∈ TBL ∧ Cond.initialized (uC_ ci) ∈ TBL) (kl : Kl_ ci) (hnf : ∀ k, k < uN_ ci → nofl_ (fty_ ci k) = true) (hs : sh_ N = (ci + 6, uN_ ci)) (hN : N < 199) (ha : (N : Int) = a) (hN' : N + 1 = N') (hb : b1 + 1 = bc ∧ s1 + uN_ ci = bs) (k : SE_ E M d b1 s1 Q (pc + 3) L ((2, a) :: st) N' (hI_ ((a, []) :: ls))) : SE_ E M d bc bs Q pc L st N (hI_ ls) := by
  subst ha
  refine s_newc hd hw kl hnf hs hN (h' := hI_ (((N : Int), []) :: ls)) (fun k hk => ?_) (hi_new rfl) ⟨by omega, by omega⟩ (SE_use hN' (by omega) (by omega) k)
  rw [hi_hd, lk_nil]
  exact df_obj rfl hs kl.1.1 hk
theorem r_newari {n' : Nat} {n : Int} (hd : decode M.2.1 pc = .ok (.newarray .int, 2)) (hw : Cond.arrayClass .int ∈ TBL) (hs : sh_ N = (0, n')) (hn : (n' : Int) = n) (hn9 : n' ≤ 1000) (hN : N < 199) (ha : (N : Int) = a) (hN' : N + 1 = N') (h1 : ls.lookup a = none) (h2 : (hT_.lookup a).getD [] = []) (hb : b1 + 1 = bc ∧ s1 + n' = bs) (k : SE_ E M d b1 s1 Q (pc + 2) L ((2, a) :: st) N' (hI_ ls)) : SE_ E M d bc bs Q pc L ((0, n) :: st) N (hI_ ls) := by
  subst ha
  refine s_newari hd hw hs (h' := hI_ ls) (fun j => ?_) hn hn9 hN (fun _ _ => rfl) ⟨by omega, by omega⟩ (SE_use hN' (by omega) (by omega) k)
  rw [hi_at h1 h2, lk_nil]
  exact df_arr rfl hs (by decide) _
theorem r_newarb {n' : Nat} {n : Int} (hd : decode M.2.1 pc = .ok (.newarray .byte, 2)) (hw : Cond.arrayClass .byte ∈ TBL) (hs : sh_ N = (1, n')) (hn : (n' : Int) = n) (hn9 : n' ≤ 1000) (hN : N < 199) (ha : (N : Int) = a) (hN' : N + 1 = N') (h1 : ls.lookup a = none) (h2 : (hT_.lookup a).getD [] = []) (hb : b1 + 1 = bc ∧ s1 + n' = bs) (k : SE_ E M d b1 s1 Q (pc + 2) L ((2, a) :: st) N' (hI_ ls)) : SE_ E M d bc bs Q pc L ((0, n) :: st) N (hI_ ls) := by
  subst ha
  refine s_newarb hd hw hs (h' := hI_ ls) (fun j => ?_) hn hn9 hN (fun _ _ => rfl) ⟨by omega, by omega⟩ (SE_use hN' (by omega) (by omega) k)
  rw [hi_at h1 h2, lk_nil]
  exact df_arr rfl hs (by decide) _
theorem r_newarz {n' : Nat} {n : Int} (hd : decode M.2.1 pc = .ok (.newarray .boolean, 2)) (hw : Cond.arrayClass .boolean ∈ TBL) (hs : sh_ N = (2, n')) (hn : (n' : Int) = n) (hn9 : n' ≤ 1000) (hN : N < 199) (ha : (N : Int) = a) (hN' : N + 1 = N') (h1 : ls.lookup a = none) (h2 : (hT_.lookup a).getD [] = []) (hb : b1 + 1 = bc ∧ s1 + n' = bs) (k : SE_ E M d b1 s1 Q (pc + 2) L ((2, a) :: st) N' (hI_ ls)) : SE_ E M d bc bs Q pc L ((0, n) :: st) N (hI_ ls) := by
  subst ha
  refine s_newarz hd hw hs (h' := hI_ ls) (fun j => ?_) hn hn9 hN (fun _ _ => rfl) ⟨by omega, by omega⟩ (SE_use hN' (by omega) (by omega) k)
  rw [hi_at h1 h2, lk_nil]
  exact df_arr rfl hs (by decide) _
theorem r_newarl {n' : Nat} {n : Int} (hd : decode M.2.1 pc = .ok (.newarray .long, 2)) (hw : Cond.arrayClass .long ∈ TBL) (hs : sh_ N = (3, n')) (hn : (n' : Int) = n) (hn9 : n' ≤ 1000) (hN : N < 199) (ha : (N : Int) = a) (hN' : N + 1 = N') (h1 : ls.lookup a = none) (h2 : (hT_.lookup a).getD [] = []) (hb : b1 + 1 = bc ∧ s1 + n' = bs) (k : SE_ E M d b1 s1 Q (pc + 2) L ((2, a) :: st) N' (hI_ ls)) : SE_ E M d bc bs Q pc L ((0, n) :: st) N (hI_ ls) := by
  subst ha
  refine s_newarl hd hw hs (h' := hI_ ls) (fun j => ?_) hn hn9 hN (fun _ _ => rfl) ⟨by omega, by omega⟩ (SE_use hN' (by omega) (by omega) k)
  rw [hi_at h1 h2, lk_nil]
  exact df_arr rfl hs (by decide) _
theorem r_newari2 {n' : Nat} {n : Int} (hd : decode M.2.1 pc = .ok (.newarray .int, 2)) (hw : Cond.arrayClass .int ∈ TBL) (hs : sh_ N = (0, n')) (hn : (n' : Int) = n) (hn9 : n' ≤ 1000) (hN : N < 199) (ha : (N : Int) = a) (hN' : N + 1 = N') (hb : b1 + 1 = bc ∧ s1 + n' = bs) (k : SE_ E M d b1 s1 Q (pc + 2) L ((2, a) :: st) N' (hI_ ((a, []) :: ls))) : SE_ E M d bc bs Q pc L ((0, n) :: st) N (hI_ ls) := by
  subst ha
  refine s_newari hd hw hs (h' := hI_ (((N : Int), []) :: ls)) (fun j => ?_) hn hn9 hN (hi_new rfl) ⟨by omega, by omega⟩ (SE_use hN' (by omega) (by omega) k)
  rw [hi_hd, lk_nil]
  exact df_arr rfl hs (by decide) _
theorem r_multii {n' k' : Nat} {n k : Int} (hd : decode M.2.1 pc = .ok (.multianewarray idx 2, 4)) (hEG : ∀ s0 a2 meth c, E s0 a2 meth c → Gi_ s0) (hw : Cond.classLink M.1 idx ("[" ++ (FieldType.array .int).toString) ∈ TBL ∧ Cond.arrayClass .int ∈ TBL) (hs : sh_ N = (4, n')) (hs1 : ∀ j : Nat, j < n' → sh_ (N + 1 + j) = (0, k')) (h0 : ∀ j : Nat, j < n' → hI_ ls N j = ((N + 1 + j : Nat) : Int)) (h1 : ∀ j : Nat, j < n' → ls.lookup ((N + 1 + j : Nat) : Int) = none ∧ (hT_.lookup ((N + 1 + j : Nat) : Int)).getD [] = []) (hn : (n' : Int) = n) (hk : (k' : Int) = k) (hn9 : n' ≤ 1000 ∧ k' ≤ 1000) (hN : N + 1 + n' ≤ 198) (ha : (N : Int) = a) (hN' : N + (1 + n') = N') (hb : b1 + (1 + n') = bc ∧ s1 + (n' + n' * k') = bs) (kk : SE_ E M d b1 s1 Q (pc + 4) L ((2, a) :: st) N' (hI_ ls)) : SE_ E M d bc bs Q pc L ((0, k) :: (0, n) :: st) N (hI_ ls) := by
  subst ha
  refine s_multii hd hEG hw hs hs1 (h' := hI_ ls) h0 (fun j hj i => ?_) hn hk hn9 hN (fun _ _ => rfl) ⟨by omega, by omega⟩ (SE_use hN' (by omega) (by omega) kk)
  rw [hi_at (h1 j hj).1 (h1 j hj).2, lk_nil]
  exact df_arr rfl (hs1 j hj) (by decide) _
theorem r_multib {n' k' : Nat} {n k : Int} (hd : decode M.2.1 pc = .ok (.multianewarray idx 2, 4)) (hEG : ∀ s0 a2 meth c, E s0 a2 meth c → Gi_ s0) (hw : Cond.classLink M.1 idx ("[" ++ (FieldType.array .byte).toString) ∈ TBL ∧ Cond.arrayClass .byte ∈ TBL) (hs : sh_ N = (5, n')) (hs1 : ∀ j : Nat, j < n' → sh_ (N + 1 + j) = (1, k')) (h0 : ∀ j : Nat, j < n' → hI_ ls N j = ((N + 1 + j : Nat) : Int)) (h1 : ∀ j : Nat, j < n' → ls.lookup ((N + 1 + j : Nat) : Int) = none ∧ (hT_.lookup ((N + 1 + j : Nat) : Int)).getD [] = []) (hn : (n' : Int) = n) (hk : (k' : Int) = k) (hn9 : n' ≤ 1000 ∧ k' ≤ 1000) (hN : N + 1 + n' ≤ 198) (ha : (N : Int) = a) (hN' : N + (1 + n') = N') (hb : b1 + (1 + n') = bc ∧ s1 + (n' + n' * k') = bs) (kk : SE_ E M d b1 s1 Q (pc + 4) L ((2, a) :: st) N' (hI_ ls)) : SE_ E M d bc bs Q pc L ((0, k) :: (0, n) :: st) N (hI_ ls) := by
  subst ha
  refine s_multib hd hEG hw hs hs1 (h' := hI_ ls) h0 (fun j hj i => ?_) hn hk hn9 hN (fun _ _ => rfl) ⟨by omega, by omega⟩ (SE_use hN' (by omega) (by omega) kk)
  rw [hi_at (h1 j hj).1 (h1 j hj).2, lk_nil]
  exact df_arr rfl (hs1 j hj) (by decide) _
theorem r_callI {y : MethodName} (hE : nh_ E) (hEG : ∀ s0 a2 meth c, E s0 a2 meth c → Gi_ s0) (hd : decode M.2.1 pc = .ok (.invokespecial idx, 3)) (vf : IF_ M.1 idx y M' n) (hdd : d' + 1 ≤ d ∧ 8 + (M'.2.2.1 + 11) + 37 * d' ≤ 37 * d) (hb : b1 + bc' = bc ∧ s1 + bs' = bs) (hn : as.length = n) (hst : stk = as.reverse ++ (2, a) :: st) (hcat : pcat_ st ≤ 8) {h h9 : PH}
    (C : ∀ Q9 : PQ, Q9.1 none N' h9 → CI_ y M' d' bc' bs' ((2, a) :: as) N h Q9) (k : SE_ E M d b1 s1 Q (pc + 3) L st N' h9) (h5 : nk5_ L = true := by rfl) (h6 : nk5_ st = true := by rfl) : SE_ E M d bc bs Q pc L stk N h :=
  e_callI hE hEG hd vf hdd ⟨by omega, by omega⟩ hn hst hcat (C _ (SE_use rfl (by omega) (by omega) k)) h5 h6
theorem r_callIN {y : MethodName} {host : String} (hE : nh_ E) (hEG : ∀ s0 a2 meth c, E s0 a2 meth c → Gi_ s0) (hd : decode M.2.1 pc = .ok (.invokespecial idx, 3)) (vf : IN_ M.1 idx y M' n host) (hdd : d' + 1 ≤ d ∧ 8 + (M'.2.2.1 + 11) + 37 * d' ≤ 37 * d) (hb : b1 + bc' = bc ∧ s1 + bs' = bs) (hn : as.length = n) (hst : stk = as.reverse ++ (2, a) :: st) (hcat : pcat_ st ≤ 8) {h h9 : PH}
    (C : ∀ Q9 : PQ, Q9.1 none N' h9 → CI_ y M' d' bc' bs' ((2, a) :: as) N h Q9) (k : SE_ E M d b1 s1 Q (pc + 3) L st N' h9) (h5 : nk5_ L = true := by rfl) (h6 : nk5_ st = true := by rfl) : SE_ E M d bc bs Q pc L stk N h :=
  e_callIN hE hEG hd vf hdd ⟨by omega, by omega⟩ hn hst hcat (C _ (SE_use rfl (by omega) (by omega) k)) h5 h6
end NEWI
theorem cl_X1_11 : Cond.classLink RX1 11 ("[" ++ (FieldType.array .int).toString) ∈ TBL ∧ Cond.arrayClass .int ∈ TBL := ⟨tb_in 577 (by decide +kernel) (by decide +kernel), tb_in 471 (by decide +kernel) (by decide +kernel)⟩
theorem cl_X3_15 : Cond.classLink RX3 15 ("[" ++ (FieldType.array .byte).toString) ∈ TBL ∧ Cond.arrayClass .byte ∈ TBL := ⟨tb_in 455 (by decide +kernel) (by decide +kernel), tb_in 151 (by decide +kernel) (by decide +kernel)⟩
theorem cl_X5_22 : Cond.classLink RX5 22 ("[" ++ (FieldType.array .int).toString) ∈ TBL ∧ Cond.arrayClass .int ∈ TBL := ⟨tb_in 595 (by decide +kernel) (by decide +kernel), tb_in 471 (by decide +kernel) (by decide +kernel)⟩
theorem if_X4_11 : IN_ RX4 11 yX6_init MX6_init 0 "WillHouse" := ⟨cfX6_init, kxw_in 445 (by decide +kernel) rfl, tb_in 446 (by decide +kernel) (by decide +kernel), rfl, rfl⟩
theorem if_X4_20 : IF_ RX4 20 yX2_init MX2_init 0 := ⟨cfX2_init, tb_in 534 (by decide +kernel) (by decide +kernel), tb_in 535 (by decide +kernel) (by decide +kernel), rfl, rfl⟩
theorem if_X6_11 : IF_ RX6 11 yX3_init MX3_init 1 := ⟨cfX3_init, tb_in 451 (by decide +kernel) (by decide +kernel), tb_in 452 (by decide +kernel) (by decide +kernel), rfl, rfl⟩
theorem if_X8_15 : IF_ RX8 15 yX4_init MX4_init 1 := ⟨cfX4_init, tb_in 439 (by decide +kernel) (by decide +kernel), tb_in 440 (by decide +kernel) (by decide +kernel), rfl, rfl⟩
theorem if_X8_24 : IN_ RX8 24 yX6_init MX6_init 0 "WillHouse" := ⟨cfX6_init, kxw_in 568 (by decide +kernel) rfl, tb_in 446 (by decide +kernel) (by decide +kernel), rfl, rfl⟩
theorem if_X8_31 : IF_ RX8 31 yX2_init MX2_init 0 := ⟨cfX2_init, tb_in 570 (by decide +kernel) (by decide +kernel), tb_in 535 (by decide +kernel) (by decide +kernel), rfl, rfl⟩
theorem if_X8_38 : IN_ RX8 38 yX1_init MX1_init 0 "WillHouse" := ⟨cfX1_init, kxw_in 573 (by decide +kernel) rfl, tb_in 574 (by decide +kernel) (by decide +kernel), rfl, rfl⟩
theorem if_X8_45 : IF_ RX8 45 yX5_init MX5_init 2 := ⟨cfX5_init, tb_in 591 (by decide +kernel) (by decide +kernel), tb_in 592 (by decide +kernel) (by decide +kernel), rfl, rfl⟩
theorem if_X8_64 : IF_ RX8 64 yJ4_init MJ4_init 0 := ⟨cfJ4_init, tb_in 665 (by decide +kernel) (by decide +kernel), tb_in 666 (by decide +kernel) (by decide +kernel), rfl, rfl⟩
theorem nc_X4_18 : Cond.classLink RX4 18 (uC_ 1) ∈ TBL ∧ Cond.instantiable (uC_ 1) (uN_ 1) ∈ TBL ∧ Cond.initialized (uC_ 1) ∈ TBL := ⟨tb_in 532 (by decide +kernel) (by decide +kernel), tb_in 533 (by decide +kernel) (by decide +kernel), tb_in 53 (by decide +kernel) (by decide +kernel)⟩
theorem nc_X4_9 : Cond.classLink RX4 9 (uC_ 5) ∈ TBL ∧ Cond.instantiable (uC_ 5) (uN_ 5) ∈ TBL ∧ Cond.initialized (uC_ 5) ∈ TBL := ⟨tb_in 443 (by decide +kernel) (by decide +kernel), tb_in 444 (by decide +kernel) (by decide +kernel), tb_in 51 (by decide +kernel) (by decide +kernel)⟩
theorem nc_X6_9 : Cond.classLink RX6 9 (uC_ 2) ∈ TBL ∧ Cond.instantiable (uC_ 2) (uN_ 2) ∈ TBL ∧ Cond.initialized (uC_ 2) ∈ TBL := ⟨tb_in 449 (by decide +kernel) (by decide +kernel), tb_in 450 (by decide +kernel) (by decide +kernel), tb_in 52 (by decide +kernel) (by decide +kernel)⟩
theorem nc_X8_13 : Cond.classLink RX8 13 (uC_ 3) ∈ TBL ∧ Cond.instantiable (uC_ 3) (uN_ 3) ∈ TBL ∧ Cond.initialized (uC_ 3) ∈ TBL := ⟨tb_in 437 (by decide +kernel) (by decide +kernel), tb_in 438 (by decide +kernel) (by decide +kernel), tb_in 50 (by decide +kernel) (by decide +kernel)⟩
theorem nc_X8_22 : Cond.classLink RX8 22 (uC_ 5) ∈ TBL ∧ Cond.instantiable (uC_ 5) (uN_ 5) ∈ TBL ∧ Cond.initialized (uC_ 5) ∈ TBL := ⟨tb_in 567 (by decide +kernel) (by decide +kernel), tb_in 444 (by decide +kernel) (by decide +kernel), tb_in 51 (by decide +kernel) (by decide +kernel)⟩
theorem nc_X8_29 : Cond.classLink RX8 29 (uC_ 1) ∈ TBL ∧ Cond.instantiable (uC_ 1) (uN_ 1) ∈ TBL ∧ Cond.initialized (uC_ 1) ∈ TBL := ⟨tb_in 569 (by decide +kernel) (by decide +kernel), tb_in 533 (by decide +kernel) (by decide +kernel), tb_in 53 (by decide +kernel) (by decide +kernel)⟩
theorem nc_X8_36 : Cond.classLink RX8 36 (uC_ 0) ∈ TBL ∧ Cond.instantiable (uC_ 0) (uN_ 0) ∈ TBL ∧ Cond.initialized (uC_ 0) ∈ TBL := ⟨tb_in 571 (by decide +kernel) (by decide +kernel), tb_in 572 (by decide +kernel) (by decide +kernel), tb_in 54 (by decide +kernel) (by decide +kernel)⟩
theorem nc_X8_43 : Cond.classLink RX8 43 (uC_ 4) ∈ TBL ∧ Cond.instantiable (uC_ 4) (uN_ 4) ∈ TBL ∧ Cond.initialized (uC_ 4) ∈ TBL := ⟨tb_in 590 (by decide +kernel) (by decide +kernel), tb_in 219 (by decide +kernel) (by decide +kernel), tb_in 55 (by decide +kernel) (by decide +kernel)⟩
theorem nc_X8_62 : Cond.classLink RX8 62 (uC_ 9) ∈ TBL ∧ Cond.instantiable (uC_ 9) (uN_ 9) ∈ TBL ∧ Cond.initialized (uC_ 9) ∈ TBL := ⟨tb_in 663 (by decide +kernel) (by decide +kernel), tb_in 664 (by decide +kernel) (by decide +kernel), tb_in 57 (by decide +kernel) (by decide +kernel)⟩
theorem ob_X1_3 : Cond.methodLink RX1 3 Lib.objectInit ∈ TBL ∧ Cond.instanceMethod Lib.objectInit ∈ TBL ∧ Cond.code Lib.objectInit ⟨#[0xb1]⟩ 1 none ∈ TBL := ⟨tb_in 576 (by decide +kernel) (by decide +kernel), tb_in 108 (by decide +kernel) (by decide +kernel), tb_in 109 (by decide +kernel) (by decide +kernel)⟩
theorem ob_X2_5 : Cond.methodLink RX2 5 Lib.objectInit ∈ TBL ∧ Cond.instanceMethod Lib.objectInit ∈ TBL ∧ Cond.code Lib.objectInit ⟨#[0xb1]⟩ 1 none ∈ TBL := ⟨tb_in 537 (by decide +kernel) (by decide +kernel), tb_in 108 (by decide +kernel) (by decide +kernel), tb_in 109 (by decide +kernel) (by decide +kernel)⟩
theorem ob_X3_3 : Cond.methodLink RX3 3 Lib.objectInit ∈ TBL ∧ Cond.instanceMethod Lib.objectInit ∈ TBL ∧ Cond.code Lib.objectInit ⟨#[0xb1]⟩ 1 none ∈ TBL := ⟨tb_in 454 (by decide +kernel) (by decide +kernel), tb_in 108 (by decide +kernel) (by decide +kernel), tb_in 109 (by decide +kernel) (by decide +kernel)⟩
theorem ob_X4_3 : Cond.methodLink RX4 3 Lib.objectInit ∈ TBL ∧ Cond.instanceMethod Lib.objectInit ∈ TBL ∧ Cond.code Lib.objectInit ⟨#[0xb1]⟩ 1 none ∈ TBL := ⟨tb_in 442 (by decide +kernel) (by decide +kernel), tb_in 108 (by decide +kernel) (by decide +kernel), tb_in 109 (by decide +kernel) (by decide +kernel)⟩
theorem ob_X5_3 : Cond.methodLink RX5 3 Lib.objectInit ∈ TBL ∧ Cond.instanceMethod Lib.objectInit ∈ TBL ∧ Cond.code Lib.objectInit ⟨#[0xb1]⟩ 1 none ∈ TBL := ⟨tb_in 594 (by decide +kernel) (by decide +kernel), tb_in 108 (by decide +kernel) (by decide +kernel), tb_in 109 (by decide +kernel) (by decide +kernel)⟩
theorem ob_X6_3 : Cond.methodLink RX6 3 Lib.objectInit ∈ TBL ∧ Cond.instanceMethod Lib.objectInit ∈ TBL ∧ Cond.code Lib.objectInit ⟨#[0xb1]⟩ 1 none ∈ TBL := ⟨tb_in 448 (by decide +kernel) (by decide +kernel), tb_in 108 (by decide +kernel) (by decide +kernel), tb_in 109 (by decide +kernel) (by decide +kernel)⟩
theorem ob_X8_1 : Cond.methodLink RX8 1 Lib.objectInit ∈ TBL ∧ Cond.instanceMethod Lib.objectInit ∈ TBL ∧ Cond.code Lib.objectInit ⟨#[0xb1]⟩ 1 none ∈ TBL := ⟨tb_in 436 (by decide +kernel) (by decide +kernel), tb_in 108 (by decide +kernel) (by decide +kernel), tb_in 109 (by decide +kernel) (by decide +kernel)⟩
theorem aq_int : Cond.arrayClass .int ∈ TBL := tb_in 471 (by decide +kernel) (by decide +kernel)
theorem aq_byte : Cond.arrayClass .byte ∈ TBL := tb_in 151 (by decide +kernel) (by decide +kernel)
theorem aq_boolean : Cond.arrayClass .boolean ∈ TBL := tb_in 531 (by decide +kernel) (by decide +kernel)
theorem aq_long : Cond.arrayClass .long ∈ TBL := tb_in 662 (by decide +kernel) (by decide +kernel)
