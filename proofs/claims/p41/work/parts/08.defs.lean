/-- a method: the name of what declares it, its code, how many locals, its answer -/
abbrev PM : Type := String × ByteArray × Nat × Option FieldType
abbrev ucl : List vw_C := [(RX1, TX1, 3), (RX2, TX2, 1), (RX3, TX3, 3), (RX4, TX4, 7), (RX5, TX5, 19), (RX6, TX6, 13), (RX8, TX8, 11), (RX9, TX9, 1), (RJ4, TJ4, 4), (RJ4, TJ4, 4), (RJ0, TJ0, 4)]
/-- 0 a number, 2 a reference -/
def fk_ (t : FieldType) : Nat := match t with
  | .object _ => 2
  | .array _ => 2
  | .long => 1
  | _ => 0
def fty_ (n : Nat) : Nat → FieldType := match n with
  | 0 => tyX1
  | 1 => tyX2
  | 2 => tyX3
  | 3 => tyX4
  | 4 => tyX5
  | 5 => tyX6
  | 6 => tyX8
  | 7 => tyX9
  | 10 => tyJ0
  | _ => tyJ4
/-- private methods of the text, found from it -/
def sbs_ : List Cond := [yJ5_ensureCapacityInternal_d00df, yJ5_newCapacity_0f7a4, yJ5_putStringAt_47b60, yJ5_inflateIfNeededFor_a7421].map fun y => Cond.selects "java/lang/StringBuilder" y y
/-- the words of the tables that a later state keeps -/
def TBL : List Cond := (lw_tbl ++ sbs_).filter goodWord
theorem tb_in {w : Cond} (i : Nat) (h : lw_tbl[i]? = some w) (g : goodWord w = true) : w ∈ TBL := List.mem_filter.mpr ⟨List.mem_append_left _ (List.mem_of_getElem? h), g⟩
theorem tb_sb {y : MethodName} (h : Cond.selects "java/lang/StringBuilder" y y ∈ sbs_) : Cond.selects "java/lang/StringBuilder" y y ∈ TBL := List.mem_filter.mpr ⟨List.mem_append_right _ h, by rfl⟩
theorem tb_good : ∀ w ∈ TBL, (w.onTables && w.keeps) = true ∨ ∃ ty, w = .arrayClass ty := fun w h => good_of_word (List.mem_filter.mp h).2
/-! objects and arrays by their numbers -/
def uC_ (ci : Nat) : String := (ucl.getD ci (RX0, TX0, 0)).1
def uT_ (ci : Nat) : u_T := (ucl.getD ci (RX0, TX0, 0)).2.1
def uN_ (ci : Nat) : Nat := (ucl.getD ci (RX0, TX0, 0)).2.2
/-- what a kind's fields are -/
def Kl_ (ci : Nat) : Prop := (ci ≠ 8 ∧ ci ≤ 9) ∧ ucl[ci]? = some (uC_ ci, uT_ ci, uN_ ci) ∧ (∀ w ∈ u_ws (uC_ ci) (uT_ ci) (uN_ ci), w ∈ TBL) ∧ (∀ k, k < uN_ ci → parseFieldDescriptor (uT_ ci k).2.2.1 = some (fty_ ci k)) ∧ (∀ a, a < uN_ ci → ∀ b, b < uN_ ci → a ≠ b → (uT_ ci a).2.1 ≠ (uT_ ci b).2.1)
/-- what the tables say of a call of y by place idx of own: the callee's own words -/
def CF_ (y : MethodName) (M' : PM) (n : Nat) : Prop := Cond.initialized y.cls ∈ TBL ∧ Cond.code y M'.2.1 M'.2.2.1 M'.2.2.2 ∈ TBL ∧ (y.cls ≠ "java/lang/invoke/MethodHandle" ∧ y.cls ≠ "java/lang/invoke/VarHandle") ∧ ∀ sig, parseMethodDescriptor y.desc = some sig → n = sig.parameters.length
def VF_ (own : String) (idx : Nat) (y : MethodName) (M' : PM) (n : Nat) : Prop := CF_ y M' n ∧ Cond.methodLink own idx y ∈ TBL ∧ Cond.instanceMethod y ∈ TBL ∧ Cond.selects y.cls y y ∈ TBL
def SF_ (own : String) (idx : Nat) (y : MethodName) (M' : PM) (n : Nat) : Prop := CF_ y M' n ∧ Cond.methodLink own idx y ∈ TBL ∧ Cond.static y ∈ TBL
theorem np_len {y : MethodName} {n : Nat} (h : (parseMethodDescriptor y.desc).map (fun d => d.parameters.length) = some n) : ∀ sig, parseMethodDescriptor y.desc = some sig → n = sig.parameters.length := by
  intro sig hs
  rw [hs] at h
  exact (Option.some.inj h).symm
