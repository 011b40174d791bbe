/-! the law's loop -/
section LWF
variable {b len : Nat} {xs : Nat → Int32} {d : Nat}
theorem SE_more {E : EP} {M : PM} {bc bs b1 s1 : Nat} {Q : PQ} {pc : Nat} {L st : List PV} {N : Nat} {h : PH} (h1 : b1 ≤ bc) (h2 : s1 ≤ bs) (k : SE_ E M d b1 s1 Q pc L st N h) : SE_ E M d bc bs Q pc L st N h := by
  intro l s0 D dA ad p e R s m args below meth c H locs cells slots mc ms ls hG hC hW hL
  refine k l s0 D dA ad p e R s m args below meth c H locs cells slots mc ms ls hG ?_ hW hL
  obtain ⟨q1, q2, q3, q4, q5, q6, q7, q8, q9, q10, q11, q12, q13, q14, q15⟩ := hC
  exact ⟨q1, q2, q3, q4, q5, q6, q7, q8, q9, q10, q11, q12, by omega, by omega, q15⟩
set_option maxRecDepth 100000 in
set_option maxHeartbeats 4000000 in
theorem lw_loop (hl : len ≤ 3072) (hd : 17 ≤ d) : ∀ (m : Nat) (i : Int) (bc bs : Nat) (h z : PH), 0 ≤ i → i ≤ 3078 → (len : Int) ≤ i + 6 * m + 5 → 700 * m ≤ bc → 1400 * m ≤ bs → LI_ h z → SE_ (EL_ b len xs) ML_law d bc bs QL_ 23 [(2, 1399), (2, 0), (2, 196), (2, 224), (0, i), (9, 0), (9, 0)] [] nN h := by
  intro m
  induction m with
  | zero =>
    intro i bc bs h z i0 i9 hm _ _ I
    refine s_iload dL_law_23 rfl ?_
    refine s_aload_n dL_law_25 rfl ?_
    refine s_slen dL_law_26 ?_
    refine s_bipush dL_law_27 (by decide) ?_
    refine s_isub dL_law_29 ?_
    refine s_icmp_gt (tgt := 2428) dL_law_30 (by decide) ⟨by omega, by omega⟩ ⟨by omega, by omega⟩ (fun _ => ?_) (fun c => absurd c (by omega))
    refine s_iconst dL_law_2428 ?_
    exact s_zreturn dL_law_2429 rfl (Or.inr rfl) rfl
  | succ m ih =>
    intro i bc bs h z i0 i9 hm hbc hbs I
    refine s_iload dL_law_23 rfl ?_
    refine s_aload_n dL_law_25 rfl ?_
    refine s_slen dL_law_26 ?_
    refine s_bipush dL_law_27 (by decide) ?_
    refine s_isub dL_law_29 ?_
    refine s_icmp_gt (tgt := 2428) dL_law_30 (by decide) ⟨by omega, by omega⟩ ⟨by omega, by omega⟩ (fun _ => ?_) (fun c => ?_)
    · refine s_iconst dL_law_2428 ?_
      exact s_zreturn dL_law_2429 rfl (Or.inr rfl) rfl
    refine s_aload_n dL_law_33 rfl ?_
    refine s_iload dL_law_34 rfl ?_
    refine s_sld dL_law_36 i0 (by omega) hl ?_
    refine s_bipush dL_law_37 (by decide) ?_
    refine s_iand 6 dL_law_39 (by decide) (by decide) (z := 64) rfl ?_
    have x0 := Int.emod_nonneg (xz_ xs i) (b := 64) (by decide)
    have x1 := Int.emod_lt_of_pos (xz_ xs i) (b := 64) (by decide)
    have K : ∀ h1 z1 : PH, LI_ h1 z1 → SE_ (EL_ b len xs) ML_law d (bc - 700) (bs - 1400) QL_ 2422 [(2, 1399), (2, 0), (2, 196), (2, 224), (0, i), (9, 0), (9, 0)] [] nN h1 := by
      intro h1 z1 I1
      refine s_iinc dL_law_2422 rfl (by decide) rfl (L' := [(2, _), (2, _), (2, _), (2, _), (0, _), (9, _), (9, _)]) rfl ?_
      refine s_goto (tgt := 23) dL_law_2425 (by decide) ?_
      exact ih (i + 6) (bc - 700) (bs - 1400) h1 z1 (by omega) (by omega) (by omega) (by omega) (by omega) I1
    generalize xz_ xs i % 64 = X at x0 x1 ⊢
    rcases (by omega : X = 0 ∨ X = 1 ∨ X = 2 ∨ X = 3 ∨ X = 4 ∨ X = 5 ∨ X = 6 ∨ X = 7 ∨ X = 8 ∨ X = 9 ∨ X = 10 ∨ X = 11 ∨ X = 12 ∨ X = 13 ∨ X = 14 ∨ X = 15 ∨ X = 16 ∨ X = 17 ∨ X = 18 ∨ X = 19 ∨ X = 20 ∨ X = 21 ∨ X = 22 ∨ X = 23 ∨ X = 24 ∨ X = 25 ∨ X = 26 ∨ X = 27 ∨ X = 28 ∨ X = 29 ∨ X = 30 ∨ X = 31 ∨ X = 32 ∨ X = 33 ∨ X = 34 ∨ X = 35 ∨ X = 36 ∨ X = 37 ∨ 37 < X) with rfl | rfl | rfl | rfl | rfl | rfl | rfl | rfl | rfl | rfl | rfl | rfl | rfl | rfl | rfl | rfl | rfl | rfl | rfl | rfl | rfl | rfl | rfl | rfl | rfl | rfl | rfl | rfl | rfl | rfl | rfl | rfl | rfl | rfl | rfl | rfl | rfl | rfl | e
    · exact s_tabIn (tgt := 208) dL_law_40 ⟨by decide, by decide⟩ (by decide) (by decide) rfl (by decide) (lc_feed hl i0 (by omega) hd (by omega) (by omega) I K)
    · exact s_tabIn (tgt := 281) dL_law_40 ⟨by decide, by decide⟩ (by decide) (by decide) rfl (by decide) (lc_end hl i0 (by omega) hd (by omega) (by omega) I K)
    · exact s_tabIn (tgt := 306) dL_law_40 ⟨by decide, by decide⟩ (by decide) (by decide) rfl (by decide) (lc_read hl i0 (by omega) hd (by omega) (by omega) I K)
    · exact s_tabIn (tgt := 350) dL_law_40 ⟨by decide, by decide⟩ (by decide) (by decide) rfl (by decide) (lc_fault hl i0 (by omega) hd (by omega) (by omega) I K)
    · exact s_tabIn (tgt := 363) dL_law_40 ⟨by decide, by decide⟩ (by decide) (by decide) rfl (by decide) (lc_name hl i0 (by omega) hd (by omega) (by omega) I K)
    · exact s_tabIn (tgt := 459) dL_law_40 ⟨by decide, by decide⟩ (by decide) (by decide) rfl (by decide) (lc_thing hl i0 (by omega) hd (by omega) (by omega) I K)
    · exact s_tabIn (tgt := 527) dL_law_40 ⟨by decide, by decide⟩ (by decide) (by decide) rfl (by decide) (lc_person hl i0 (by omega) hd (by omega) (by omega) I K)
    · exact s_tabIn (tgt := 595) dL_law_40 ⟨by decide, by decide⟩ (by decide) (by decide) rfl (by decide) (lc_gift hl i0 (by omega) hd (by omega) (by omega) I K)
    · exact s_tabIn (tgt := 663) dL_law_40 ⟨by decide, by decide⟩ (by decide) (by decide) rfl (by decide) (lc_sell hl i0 (by omega) hd (by omega) (by omega) I K)
    · exact s_tabIn (tgt := 743) dL_law_40 ⟨by decide, by decide⟩ (by decide) (by decide) rfl (by decide) (lc_change hl i0 (by omega) hd (by omega) (by omega) I K)
    · exact s_tabIn (tgt := 811) dL_law_40 ⟨by decide, by decide⟩ (by decide) (by decide) rfl (by decide) (lc_lose hl i0 (by omega) hd (by omega) (by omega) I K)
    · exact s_tabIn (tgt := 879) dL_law_40 ⟨by decide, by decide⟩ (by decide) (by decide) rfl (by decide) (lc_die hl i0 (by omega) hd (by omega) (by omega) I K)
    · exact s_tabIn (tgt := 935) dL_law_40 ⟨by decide, by decide⟩ (by decide) (by decide) rfl (by decide) (lc_renounce hl i0 (by omega) hd (by omega) (by omega) I K)
    · exact s_tabIn (tgt := 1026) dL_law_40 ⟨by decide, by decide⟩ (by decide) (by decide) rfl (by decide) (lc_set hl i0 (by omega) hd (by omega) (by omega) I K)
    · exact s_tabIn (tgt := 1094) dL_law_40 ⟨by decide, by decide⟩ (by decide) (by decide) rfl (by decide) (lc_undo hl i0 (by omega) hd (by omega) (by omega) I K)
    · exact s_tabIn (tgt := 1107) dL_law_40 ⟨by decide, by decide⟩ (by decide) (by decide) rfl (by decide) (lc_estate hl i0 (by omega) hd (by omega) (by omega) I K)
    · exact s_tabIn (tgt := 1163) dL_law_40 ⟨by decide, by decide⟩ (by decide) (by decide) rfl (by decide) (lc_due hl i0 (by omega) hd (by omega) (by omega) I K)
    · exact s_tabIn (tgt := 1231) dL_law_40 ⟨by decide, by decide⟩ (by decide) (by decide) rfl (by decide) (lc_gets hl i0 (by omega) hd (by omega) (by omega) I K)
    · exact s_tabIn (tgt := 1299) dL_law_40 ⟨by decide, by decide⟩ (by decide) (by decide) rfl (by decide) (lc_classed hl i0 (by omega) hd (by omega) (by omega) I K)
    · exact s_tabIn (tgt := 1367) dL_law_40 ⟨by decide, by decide⟩ (by decide) (by decide) rfl (by decide) (lc_itself hl i0 (by omega) hd (by omega) (by omega) I K)
    · exact s_tabIn (tgt := 1430) dL_law_40 ⟨by decide, by decide⟩ (by decide) (by decide) rfl (by decide) (lc_leastDebt hl i0 (by omega) hd (by omega) (by omega) I K)
    · exact s_tabIn (tgt := 1486) dL_law_40 ⟨by decide, by decide⟩ (by decide) (by decide) rfl (by decide) (lc_needed hl i0 (by omega) hd (by omega) (by omega) I K)
    · exact s_tabIn (tgt := 1542) dL_law_40 ⟨by decide, by decide⟩ (by decide) (by decide) rfl (by decide) (lc_part hl i0 (by omega) hd (by omega) (by omega) I K)
    · exact s_tabIn (tgt := 1598) dL_law_40 ⟨by decide, by decide⟩ (by decide) (by decide) rfl (by decide) (lc_left hl i0 (by omega) hd (by omega) (by omega) I K)
    · exact s_tabIn (tgt := 1654) dL_law_40 ⟨by decide, by decide⟩ (by decide) (by decide) rfl (by decide) (lc_takes hl i0 (by omega) hd (by omega) (by omega) I K)
    · exact s_tabIn (tgt := 1722) dL_law_40 ⟨by decide, by decide⟩ (by decide) (by decide) rfl (by decide) (lc_taken hl i0 (by omega) hd (by omega) (by omega) I K)
    · exact s_tabIn (tgt := 1790) dL_law_40 ⟨by decide, by decide⟩ (by decide) (by decide) rfl (by decide) (lc_stock hl i0 (by omega) hd (by omega) (by omega) I K)
    · exact s_tabIn (tgt := 1858) dL_law_40 ⟨by decide, by decide⟩ (by decide) (by decide) rfl (by decide) (lc_heir hl i0 (by omega) hd (by omega) (by omega) I K)
    · exact s_tabIn (tgt := 1883) dL_law_40 ⟨by decide, by decide⟩ (by decide) (by decide) rfl (by decide) (lc_ranked hl i0 (by omega) hd (by omega) (by omega) I K)
    · exact s_tabIn (tgt := 1908) dL_law_40 ⟨by decide, by decide⟩ (by decide) (by decide) rfl (by decide) (lc_ifDead hl i0 (by omega) hd (by omega) (by omega) I K)
    · exact s_tabIn (tgt := 1976) dL_law_40 ⟨by decide, by decide⟩ (by decide) (by decide) rfl (by decide) (lc_ifSold hl i0 (by omega) hd (by omega) (by omega) I K)
    · exact s_tabIn (tgt := 2068) dL_law_40 ⟨by decide, by decide⟩ (by decide) (by decide) rfl (by decide) (lc_ifDebt hl i0 (by omega) hd (by omega) (by omega) I K)
    · exact s_tabIn (tgt := 2136) dL_law_40 ⟨by decide, by decide⟩ (by decide) (by decide) rfl (by decide) (lc_ifRenounced hl i0 (by omega) hd (by omega) (by omega) I K)
    · exact s_tabIn (tgt := 2204) dL_law_40 ⟨by decide, by decide⟩ (by decide) (by decide) rfl (by decide) (lc_ifHeld hl i0 (by omega) hd (by omega) (by omega) I K)
    · exact s_tabIn (tgt := 2260) dL_law_40 ⟨by decide, by decide⟩ (by decide) (by decide) rfl (by decide) (lc_envied hl i0 (by omega) hd (by omega) (by omega) I K)
    · exact s_tabIn (tgt := 2316) dL_law_40 ⟨by decide, by decide⟩ (by decide) (by decide) rfl (by decide) (lc_write hl i0 (by omega) hd (by omega) (by omega) I K)
    · exact s_tabIn (tgt := 2372) dL_law_40 ⟨by decide, by decide⟩ (by decide) (by decide) rfl (by decide) (lc_octet hl i0 (by omega) hd (by omega) (by omega) I K)
    · exact s_tabIn (tgt := 2397) dL_law_40 ⟨by decide, by decide⟩ (by decide) (by decide) rfl (by decide) (lc_count hl i0 (by omega) hd (by omega) (by omega) I K)
    · exact s_tabOut (tgt := 2422) dL_law_40 ⟨by omega, by omega⟩ (Or.inr e) (by decide) (SE_more (Nat.sub_le _ _) (Nat.sub_le _ _) (K h z I))
end LWF
