/-! a StringBuilder's making: what the tables say of it; one that is never used is an object like any other (cells 195, 196) -/
abbrev yJ5_init : MethodName := yJ5_init_d00df
abbrev yJ4_init : MethodName := yJ4_init_da8c8
abbrev MJ5_init : PM := (RJ5, cJ5_init_d00df, 2, none)
abbrev MJ4_init : PM := (RJ4, cJ4_init_da8c8, 1, none)
theorem cfJ5_init : CF_ yJ5_init_d00df MJ5_init 1 := ⟨tb_in 56 (by decide +kernel) (by decide +kernel), tb_in 670 (by decide +kernel) (by decide +kernel), ⟨by decide +kernel, by decide +kernel⟩, np_len (by decide +kernel)⟩
theorem cfJ4_init : CF_ yJ4_init_da8c8 MJ4_init 0 := ⟨tb_in 57 (by decide +kernel) (by decide +kernel), tb_in 667 (by decide +kernel) (by decide +kernel), ⟨by decide +kernel, by decide +kernel⟩, np_len (by decide +kernel)⟩
theorem kl_9 : Kl_ 9 := ⟨by decide, rfl, kwJ4, tyJ4_ok, nmJ4⟩
theorem ob_J5_3 : Cond.methodLink RJ5 3 Lib.objectInit ∈ TBL ∧ Cond.instanceMethod Lib.objectInit ∈ TBL ∧ Cond.code Lib.objectInit ⟨#[0xb1]⟩ 1 none ∈ TBL := ⟨tb_in 671 (by decide +kernel) (by decide +kernel), tb_in 108 (by decide +kernel) (by decide +kernel), tb_in 109 (by decide +kernel) (by decide +kernel)⟩
theorem if_J4_1 : IF_ RJ4 1 yJ5_init MJ5_init 1 := ⟨cfJ5_init, tb_in 668 (by decide +kernel) (by decide +kernel), tb_in 669 (by decide +kernel) (by decide +kernel), rfl, rfl⟩
section PUTB
variable {E : EP} {M : PM} {d bc bs : Nat} {Q : PQ} {pc idx : Nat} {L st : List PV} {N : Nat} {h : PH}
/-- .. a byte field -/
theorem s_putbN {a x z : Int} {ci : Nat} (k : Nat) (hd : decode M.2.1 pc = .ok (.putfield idx, 3)) (hw : Cond.fieldLink M.1 idx (uT_ ci k).1 (uT_ ci k).2.1 (uT_ ci k).2.2.1 ∈ TBL) (kl : Kl_ ci) (hk : k < uN_ ci) (hf : fty_ ci k = .byte) (hE : ∀ s0 a2 meth c, E s0 a2 meth c → meth.name = "<init>") (ho : (uT_ ci k).1 = M.1) (A : isO N a ci) (hz : (k : Int) = z) (hx : x = 0 ∨ x = 1)
    (kk : SE_ E M d bc bs Q (pc + 3) L st N (hs_ h a z x)) : SE_ E M d bc bs Q pc L ((0, x) :: (2, a) :: st) N h := by
  subst hz
  refine s_putN hd hw kl hk hE ho A (fun ad => ?_) (fun ad => ?_) kk
  · rw [hf]; rfl
  · rw [hf]; rcases hx with rfl | rfl <;> exact ⟨rfl, rfl⟩
end PUTB
/-! the law's own methods -/
abbrev ML_draw : PM := (RL, cL_draw, 2, (some .int))
set_option maxRecDepth 1000000 in
set_option maxHeartbeats 4000000 in
theorem cdL_draw : lw_tbl[731]? = some (Cond.code yL_draw ML_draw.2.1 ML_draw.2.2.1 ML_draw.2.2.2) := by rfl
theorem cfL_draw : CF_ yL_draw ML_draw 2 := ⟨tb_in 48 (by decide +kernel) (by decide +kernel), tb_in 731 cdL_draw rfl, ⟨by decide +kernel, by decide +kernel⟩, np_len (by decide +kernel)⟩
theorem sf_L_74 : SF_ RL 74 yL_draw ML_draw 2 := ⟨cfL_draw, tb_in 729 (by decide +kernel) (by decide +kernel), tb_in 730 (by decide +kernel) (by decide +kernel)⟩
abbrev ML_text : PM := (RL, cL_text, 7, (some (.object "java/lang/String")))
set_option maxRecDepth 1000000 in
set_option maxHeartbeats 4000000 in
theorem cdL_text : lw_tbl[743]? = some (Cond.code yL_text ML_text.2.1 ML_text.2.2.1 ML_text.2.2.2) := by rfl
theorem cfL_text : CF_ yL_text ML_text 1 := ⟨tb_in 48 (by decide +kernel) (by decide +kernel), tb_in 743 cdL_text rfl, ⟨by decide +kernel, by decide +kernel⟩, np_len (by decide +kernel)⟩
theorem sf_L_83 : SF_ RL 83 yL_text ML_text 1 := ⟨cfL_text, tb_in 741 (by decide +kernel) (by decide +kernel), tb_in 742 (by decide +kernel) (by decide +kernel)⟩
abbrev ML_house : PM := (RL, cL_house, 6, (some (.object "WillHouse")))
set_option maxRecDepth 1000000 in
set_option maxHeartbeats 4000000 in
theorem cdL_house : lw_tbl[431]? = some (Cond.code yL_house ML_house.2.1 ML_house.2.2.1 ML_house.2.2.2) := by rfl
theorem cfL_house : CF_ yL_house ML_house 1 := ⟨tb_in 48 (by decide +kernel) (by decide +kernel), tb_in 431 cdL_house rfl, ⟨by decide +kernel, by decide +kernel⟩, np_len (by decide +kernel)⟩
theorem sf_L_108 : SF_ RL 108 yL_house ML_house 1 := ⟨cfL_house, tb_in 429 (by decide +kernel) (by decide +kernel), tb_in 430 (by decide +kernel) (by decide +kernel)⟩
theorem pn_L : plainName RL = true := by decide +kernel
theorem kc_L_7 : Jvm.Cond.constant RL 7 (Int32.ofInt 2147483647) ∈ TBL := tb_in 732 (by decide +kernel) (by decide +kernel)
theorem kc_L_128 : Jvm.Cond.constant RL 128 (Int32.ofInt 99999) ∈ TBL := tb_in 1205 (by decide +kernel) (by decide +kernel)
theorem jm_L_132 : JM_ RL 132 Lib.Math.max.name Lib.Math.max.code := ⟨tb_in 1204 (by decide +kernel) (by decide +kernel), tb_in 202 (by decide +kernel) (by decide +kernel), tb_in 62 (by decide +kernel) (by decide +kernel), tb_in 203 (by decide +kernel) (by decide +kernel)⟩
theorem nc_L_12 : Cond.classLink RL 12 (uC_ 7) ∈ TBL ∧ Cond.instantiable (uC_ 7) (uN_ 7) ∈ TBL ∧ Cond.initialized (uC_ 7) ∈ TBL := ⟨tb_in 727 (by decide +kernel) (by decide +kernel), tb_in 728 (by decide +kernel) (by decide +kernel), tb_in 60 (by decide +kernel) (by decide +kernel)⟩
theorem nc_L_71 : Cond.classLink RL 71 (uC_ 6) ∈ TBL ∧ Cond.instantiable (uC_ 6) (uN_ 6) ∈ TBL ∧ Cond.initialized (uC_ 6) ∈ TBL := ⟨tb_in 432 (by decide +kernel) (by decide +kernel), tb_in 173 (by decide +kernel) (by decide +kernel), tb_in 49 (by decide +kernel) (by decide +kernel)⟩
theorem if_L_73 : IF_ RL 73 yX8_init MX8_init 0 := ⟨cfX8_init, tb_in 433 (by decide +kernel) (by decide +kernel), tb_in 434 (by decide +kernel) (by decide +kernel), rfl, rfl⟩
theorem if_L_80 : IF_ RL 80 yX9_init MX9_init 1 := ⟨cfX9_init, tb_in 733 (by decide +kernel) (by decide +kernel), tb_in 734 (by decide +kernel) (by decide +kernel), rfl, rfl⟩
theorem ob_X9_1 : Cond.methodLink RX9 1 Lib.objectInit ∈ TBL ∧ Cond.instanceMethod Lib.objectInit ∈ TBL ∧ Cond.code Lib.objectInit ⟨#[0xb1]⟩ 1 none ∈ TBL := ⟨tb_in 736 (by decide +kernel) (by decide +kernel), tb_in 108 (by decide +kernel) (by decide +kernel), tb_in 109 (by decide +kernel) (by decide +kernel)⟩
