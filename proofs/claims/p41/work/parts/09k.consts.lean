/-! what stands still all the run through: texts, the words of the LINES, rows of numbers. Their numbers: 1000 + j text j (0 to 23 the words' letters, 24 to 43 what the law writes), 1100 + j its bytes, 1200 + j word j, 1300 all words, 1301 the switch's row, 1302 the greatest numbers told, 1303, 1304 the digits, 1305 what shapes messages -/
def wds_ : List (List Int) := [[116, 104, 105, 110, 103], [99, 97, 115, 104], [100, 101, 98, 116], [99, 104, 105, 108, 100], [102, 114, 105, 101, 110, 100], [105, 115, 115, 117, 101], [111, 102], [103, 105, 118, 101], [116, 111], [115, 117, 109], [114, 97, 110, 107], [102, 114, 111, 109], [114, 101, 115, 116], [115, 111, 108, 100], [111, 119, 101, 100], [99, 104, 97, 110, 103, 101, 100], [108, 111, 115, 116], [105, 110, 115, 117, 114, 101, 100], [100, 101, 97, 100], [109, 111, 110, 116, 104, 115], [114, 97, 116, 101], [114, 117, 108, 101], [119, 111, 114, 116, 104], []]
def txs_ : List (List Int) := wds_ ++ [[102, 114, 105, 101, 110, 100, 32], [59], [105, 115, 115, 117, 101, 32], [32, 111, 102, 32], [99, 104, 105, 108, 100, 32], [116, 104, 105, 110, 103, 32], [32], [99, 97, 115, 104, 32], [100, 101, 98, 116, 32], [103, 105, 118, 101, 32], [32, 116, 111, 32], [102, 114, 111, 109, 32], [32, 114, 97, 110, 107, 32], [115, 117, 109, 32], [32, 114, 97, 110, 107, 32, 50, 59], [114, 101, 115, 116, 32], [100, 101, 97, 100, 32, 97, 59], [108, 111, 115, 116, 32, 116, 32, 105, 110, 115, 117, 114, 101, 100, 32], [109, 111, 110, 116, 104, 115, 32], [114, 117, 108, 101, 32, 119, 111, 114, 116, 104, 59]]
def txb_ (j : Nat) : List Int := txs_.getD j []
/-- text 24 + j, where the code names it: whose constant, its place, the text -/
def tmo_ (j : Nat) : String × Nat × String := ([("WillHouseLaw", 17, "friend "), ("WillHouseLaw", 26, ";"), ("WillHouseLaw", 28, "issue "), ("WillHouseLaw", 30, " of "), ("WillHouseLaw", 32, "child "), ("WillHouseLaw", 34, "thing "), ("WillHouseLaw", 36, " "), ("WillHouseLaw", 41, "cash "), ("WillHouseLaw", 43, "debt "), ("WillHouseLaw", 45, "give "), ("WillHouseLaw", 47, " to "), ("WillHouseLaw", 49, "from "), ("WillHouseLaw", 51, " rank "), ("WillHouseLaw", 53, "sum "), ("WillHouseLaw", 55, " rank 2;"), ("WillHouseLaw", 57, "rest "), ("WillHouseLaw", 59, "dead a;"), ("WillHouseLaw", 61, "lost t insured "), ("WillHouseLaw", 63, "months "), ("WillHouseLaw", 65, "rule worth;")] : List (String × Nat × String)).getD j ("", 0, "")
def swm_ : List Int := [1, 2, 3, 4, 5, 6, 0, 7, 0, 8, 0, 9, 10, 11, 0, 12, 13, 0, 14, 15, 16, 17, 0, 0]
def mtd_ : List Int := [99999, 99999, 240, 99, 1]
def dgo_ (k : Nat) : Int := ((48 + k % 10 : Nat) : Int)
def dgt_ (k : Nat) : Int := ((48 + k / 10 : Nat) : Int)
/-- statics that hold a constant -/
def kst_ : List (String × String × String × Int) := [("WillHouse$Word", "OF", "LWillHouse$Word;", 1206), ("WillHouse$Word", "TO", "LWillHouse$Word;", 1208), ("WillHouse$Word", "RANK", "LWillHouse$Word;", 1210), ("WillHouse$Word", "OWED", "LWillHouse$Word;", 1214), ("WillHouse$Word", "INSURED", "LWillHouse$Word;", 1217), ("WillHouse$Word", "WORTH", "LWillHouse$Word;", 1222), ("WillHouse$Word", "OTHER", "LWillHouse$Word;", 1223), ("WillHouse", "WORDS", "[LWillHouse$Word;", 1300), ("WillHouse$1", "$SwitchMap$WillHouse$Word", "[I", 1301), ("WillHouse", "MOST_TOLD", "[I", 1302), ("java/lang/Integer", "DigitOnes", "[B", 1303), ("java/lang/Integer", "DigitTens", "[B", 1304)]
/-- words of the tables that hold still but are no good words: what is declared, what may be cast, links of nest mates -/
def kxb_ (w : Cond) : Bool := match w with
  | .declares _ => true
  | .castable _ _ => true
  | .fieldLinkNest _ _ _ _ _ _ => true
  | .methodLinkNest _ _ _ _ => true
  | _ => false
def kxw_ : List Cond := lw_tbl.filter kxb_
theorem kxw_in {w : Cond} (i : Nat) (h : lw_tbl[i]? = some w) (g : kxb_ w = true) : w ∈ kxw_ := List.mem_filter.mpr ⟨List.mem_of_getElem? h, g⟩
theorem kxw_warm {w : Cond} (hw : w ∈ kxw_) {s U : State} (hW : s.WarmedH U.vm) (h : va_Nw w s) : va_Nw w U := by
  have g := (List.mem_filter.mp hw).2
  cases w with
  | declares x => exact va_Nw.warmD hW h
  | castable C T => exact va_Nw.warmC hW h
  | fieldLinkNest a i b n d h9 => exact va_Nw.warmF hW h
  | methodLinkNest a i x h9 => exact va_Nw.warmM hW h
  | _ => cases g
theorem kxw_use {w : Cond} (hw : w ∈ kxw_) {A : Array Value} {U : State} (h : va_Nw w U) : w.before A U = true := by
  have g := (List.mem_filter.mp hw).2
  cases w with
  | declares x => exact va_Nw.use rfl h
  | castable C T => exact va_Nw.use rfl h
  | fieldLinkNest a i b n d h9 => exact va_Nw.use rfl h
  | methodLinkNest a i x h9 => exact va_Nw.use rfl h
  | _ => cases g
/-- exceptions of which none is another -/
def kxn_ : List (String × String) := []
/-- texts of messages, where the code names them -/
def kxs_ : List (String × Nat × String) := [("WillHouse", 241, "no such number is told"), ("WillHouse", 246, "out of bounds"), ("WillHouse", 283, "an estate has no such number"), ("WillHouse", 408, "no such class"), ("WillHouse", 308, "a class has no such number"), ("WillHouse", 404, "no such person"), ("WillHouse", 334, "nothing such is taken"), ("WillHouse$Reader", 242, "the text is wrong")]
def Kx_ (A : Nat → Prop) (U : State) (H : Heap) (a : Int → Nat) : Prop :=
  (∀ j : Nat, j < 20 → vk_R (tmo_ j).1 (tmo_ j).2.1 (tmo_ j).2.2 (a (1024 + j)) U) ∧
  (∀ j : Nat, j < 44 → va_O "java/lang/String" (a (1000 + j)) A U H ∧ va_OF "java/lang/String" "coder" "B" (.int 0) (a (1000 + j)) A U H ∧ va_OF "java/lang/String" "value" "[B" (.ref (a (1100 + j))) (a (1000 + j)) A U H ∧ va_T .byte (a (1100 + j)) (txb_ j).length (fun i => .int (Int32.ofInt ((txb_ j).getD i 0))) A U H) ∧
  (∀ j : Nat, j < 24 → va_O "WillHouse$Word" (a (1200 + j)) A U H ∧ va_OF "java/lang/Enum" "ordinal" "I" (.int (Int32.ofInt j)) (a (1200 + j)) A U H ∧ va_OF "WillHouse$Word" "letters" "Ljava/lang/String;" (.ref (a (1000 + j))) (a (1200 + j)) A U H) ∧
  (∀ q ∈ kst_, va_Z q.1 q.2.1 q.2.2.1 (.ref (a q.2.2.2)) A U H) ∧
  va_T (.object "WillHouse$Word") (a 1300) 24 (fun i => .ref (a (1200 + i))) A U H ∧
  va_T .int (a 1301) 24 (fun i => .int (Int32.ofInt (swm_.getD i 0))) A U H ∧
  va_T .int (a 1302) 5 (fun i => .int (Int32.ofInt (mtd_.getD i 0))) A U H ∧
  va_T .byte (a 1303) 100 (fun i => .int (Int32.ofInt (dgo_ i))) A U H ∧
  va_T .byte (a 1304) 100 (fun i => .int (Int32.ofInt (dgt_ i))) A U H ∧
  va_Z "java/lang/String" "COMPACT_STRINGS" "Z" (.int 1) A U H ∧
  (va_Z "jdk/internal/util/Preconditions" "SIOOBE_FORMATTER" "Ljava/util/function/BiFunction;" .null A U H ∨ va_Z "jdk/internal/util/Preconditions" "SIOOBE_FORMATTER" "Ljava/util/function/BiFunction;" (.ref (a 1305)) A U H) ∧
  vx_Zq Bundle.tN "UNASSIGNED_STACK" Bundle.steD A U H ∧ vx_Zq Bundle.tN "SUPPRESSED_SENTINEL" Bundle.listD A U H ∧ (∀ w ∈ kxw_, va_Nw w U) ∧ (∀ q ∈ kxn_, va_Nc q.1 q.2 U) ∧ (∀ q ∈ kxs_, ∃ sa : Nat, vk_R q.1 q.2.1 q.2.2 sa U)
theorem Kx_to {A : Nat → Prop} {u U : State} {H H1 : Heap} {a : Int → Nat} (h : Kx_ A u H a) (hW : u.WarmedH U.vm) (hq : ∀ x : Nat, x < H.size → ¬ A x → H1[x]? = H[x]?) : Kx_ A U H1 a := by
  have hv : u.vm.Alike U.vm := hW.alike
  obtain ⟨h1, h2, h3, h4, h5, h6, h7, h8, h9, h10, h11, h12, h13, h14, h15, h16⟩ := h
  refine ⟨fun j hj => vk_R.warm hW (h1 j hj), fun j hj => ?_, fun j hj => ?_, fun q hm => (va_Z.moved hv (h4 q hm)).kept hq, (va_T.moved hv h5).kept hq, (va_T.moved hv h6).kept hq, (va_T.moved hv h7).kept hq, (va_T.moved hv h8).kept hq, (va_T.moved hv h9).kept hq, (va_Z.moved hv h10).kept hq, ?_, (vx_Zq.moved hv h12).kept hq, (vx_Zq.moved hv h13).kept hq, fun w hm => kxw_warm hm hW (h14 w hm), fun q hm => va_Nc.moved hv (h15 q hm), fun q hm => (h16 q hm).elim fun sa z => ⟨sa, vk_R.warm hW z⟩⟩
  · obtain ⟨a1, a2, a3, a4⟩ := h2 j hj
    exact ⟨(va_O.moved hv a1).kept hq, (va_OF.moved hv a2).kept hq, (va_OF.moved hv a3).kept hq, (va_T.moved hv a4).kept hq⟩
  · obtain ⟨a1, a2, a3⟩ := h3 j hj
    exact ⟨(va_O.moved hv a1).kept hq, (va_OF.moved hv a2).kept hq, (va_OF.moved hv a3).kept hq⟩
  · exact h11.imp (fun z => (va_Z.moved hv z).kept hq) (fun z => (va_Z.moved hv z).kept hq)
