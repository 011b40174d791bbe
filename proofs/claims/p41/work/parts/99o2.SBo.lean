/-! a StringBuilder's making: what the tables say of it; one that is never used is an object like any other (cells 195, 196) -/
abbrev yJ5_init : MethodName := yJ5_init_d00df
abbrev yJ4_init : MethodName := yJ4_init_da8c8
abbrev MJ5_init : PM := (RJ5, cJ5_init_d00df, 2, none)
abbrev MJ4_init : PM := (RJ4, cJ4_init_da8c8, 1, none)
theorem cfJ5_init : CF_ yJ5_init_d00df MJ5_init 1 := ⟨tb_in 56 (by decide +kernel) (by decide +kernel), tb_in 670 (by decide +kernel) (by decide +kernel), ⟨by decide +kernel, by decide +kernel⟩, np_len (by decide +kernel)⟩
theorem cfJ4_init : CF_ yJ4_init_da8c8 MJ4_init 0 := ⟨tb_in 57 (by decide +kernel) (by decide +kernel), tb_in 667 (by decide +kernel) (by decide +kernel), ⟨by decide +kernel, by decide +kernel⟩, np_len (by decide +kernel)⟩
theorem kl_9 : Kl_ 9 := ⟨by decide, rfl, kwJ4, tyJ4_ok, nmJ4⟩
theorem ob_J5_3 : Cond.methodLink RJ5 3 Lib.objectInit ∈ TBL ∧ Cond.instanceMethod Lib.objectInit ∈ TBL ∧ Cond.code Lib.objectInit ⟨#[0xb1]⟩ 1 none ∈ TBL := ⟨tb_in 671 (by decide +kernel) (by decide +kernel), tb_in 108 (by decide +kernel) (by decide +kernel), tb_in 109 (by decide +kernel) (by decide +kernel)⟩
theorem if_J4_1 : IF_ RJ4 1 yJ5_init MJ5_init 1 := ⟨cfJ5_init, tb_in 668 (by decide +kernel) (by decide +kernel), tb_in 669 (by decide +kernel) (by decide +kernel), rfl, rfl⟩
section PUTB
variable {E : EP} {M : PM} {d bc bs : Nat} {Q : PQ} {pc idx : Nat} {L st : List PV} {N : Nat} {h : PH}
/-- .. a byte field -/
theorem s_putbN {a x z : Int} {ci : Nat} (k : Nat) (hd : decode M.2.1 pc = .ok (.putfield idx, 3)) (hw : Cond.fieldLink M.1 idx (uT_ ci k).1 (uT_ ci k).2.1 (uT_ ci k).2.2.1 ∈ TBL) (kl : Kl_ ci) (hk : k < uN_ ci) (hf : fty_ ci k = .byte) (hE : ∀ s0 a2 meth c, E s0 a2 meth c → meth.name = "<init>") (ho : (uT_ ci k).1 = M.1) (A : isO N a ci) (hz : (k : Int) = z) (hx : x = 0 ∨ x = 1)
    (kk : SE_ E M d bc bs Q (pc + 3) L st N (hs_ h a z x)) : SE_ E M d bc bs Q pc L ((0, x) :: (2, a) :: st) N h := by
  subst hz
  refine s_putN hd hw kl hk hE ho A (fun ad => ?_) (fun ad => ?_) kk
  · rw [hf]; rfl
  · rw [hf]; rcases hx with rfl | rfl <;> exact ⟨rfl, rfl⟩
end PUTB
