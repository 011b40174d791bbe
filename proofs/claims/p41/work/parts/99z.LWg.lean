/-! what stands at the start: out of what the statement gives of it -/
def FLN : List Cond := flatC (Jvm.Cond.and given_1 narrow_1)
theorem fl_mem {w : Cond} (i : Nat) (h : FLN[i]? = some w) : w ∈ FLN := List.mem_of_getElem? h
def tm_ (j : Nat) : Term := ([.string "WillHouse$Word" 100, .string "WillHouse$Word" 106, .string "WillHouse$Word" 109, .string "WillHouse$Word" 112, .string "WillHouse$Word" 115, .string "WillHouse$Word" 118, .string "WillHouse$Word" 121, .string "WillHouse$Word" 124, .string "WillHouse$Word" 127, .string "WillHouse$Word" 130, .string "WillHouse$Word" 133, .string "WillHouse$Word" 136, .string "WillHouse$Word" 139, .string "WillHouse$Word" 142, .string "WillHouse$Word" 145, .string "WillHouse$Word" 148, .string "WillHouse$Word" 151, .string "WillHouse$Word" 154, .string "WillHouse$Word" 157, .string "WillHouse$Word" 160, .string "WillHouse$Word" 163, .string "WillHouse$Word" 166, .string "WillHouse$Word" 169, .string "WillHouse$Word" 172, .string "WillHouseLaw" 17, .string "WillHouseLaw" 26, .string "WillHouseLaw" 28, .string "WillHouseLaw" 30, .string "WillHouseLaw" 32, .string "WillHouseLaw" 34, .string "WillHouseLaw" 36, .string "WillHouseLaw" 41, .string "WillHouseLaw" 43, .string "WillHouseLaw" 45, .string "WillHouseLaw" 47, .string "WillHouseLaw" 49, .string "WillHouseLaw" 51, .string "WillHouseLaw" 53, .string "WillHouseLaw" 55, .string "WillHouseLaw" 57, .string "WillHouseLaw" 59, .string "WillHouseLaw" 61, .string "WillHouseLaw" 63, .string "WillHouseLaw" 65] : List Term).getD j (.int 0)
def te_ (j : Nat) : Nat := ([1065, 1074, 1082, 1090, 1099, 1109, 1017, 1118, 1023, 1126, 1029, 1133, 1141, 1149, 1037, 1157, 1168, 1045, 1176, 1184, 1194, 1202, 1056, 1013, 794, 805, 810, 820, 828, 838, 848, 853, 862, 871, 880, 888, 897, 907, 915, 927, 936, 947, 966, 977] : List Nat).getD j 0
def wnm_ (j : Nat) : String := (["THING", "CASH", "DEBT", "CHILD", "FRIEND", "ISSUE", "OF", "GIVE", "TO", "SUM", "RANK", "FROM", "REST", "SOLD", "OWED", "CHANGED", "LOST", "INSURED", "DEAD", "MONTHS", "RATE", "RULE", "WORTH", "OTHER"] : List String).getD j ""
def wix_ (j : Nat) : Nat := ([323, 333, 344, 356, 369, 383, 284, 398, 288, 414, 293, 431, 449, 468, 299, 488, 509, 306, 531, 554, 578, 603, 314, 281] : List Nat).getD j 0
abbrev sV_ : String := "java/lang/String"
abbrev wT_ (j : Nat) : Term := .static "WillHouse$Word" (wnm_ j) "LWillHouse$Word;"
set_option maxRecDepth 100000 in
theorem tx_0 : (FLN[te_ 0]? = some (.exactly (tm_ 0) sV_) ∧ FLN[te_ 0 + 1]? = some (.eq (.field (tm_ 0) sV_ "coder" "B") (.int 0)) ∧ FLN[te_ 0 + 2]? = some (.arrayOf (.field (tm_ 0) sV_ "value" "[B") .byte) ∧ FLN[te_ 0 + 3]? = some (.eq (.length (.field (tm_ 0) sV_ "value" "[B")) (.int (Int32.ofNat (txb_ 0).length))) ∧ (txb_ 0).length < 2 ^ 31 ∧ ∀ i : Nat, i < (txb_ 0).length → FLN[te_ 0 + 4 + i]? = some (.eq (.elem (.field (tm_ 0) sV_ "value" "[B") (.int (Int32.ofNat i))) (.int (Int32.ofInt ((txb_ 0).getD i 0))))) := by decide +kernel
set_option maxRecDepth 100000 in
theorem tx_1 : (FLN[te_ 1]? = some (.exactly (tm_ 1) sV_) ∧ FLN[te_ 1 + 1]? = some (.eq (.field (tm_ 1) sV_ "coder" "B") (.int 0)) ∧ FLN[te_ 1 + 2]? = some (.arrayOf (.field (tm_ 1) sV_ "value" "[B") .byte) ∧ FLN[te_ 1 + 3]? = some (.eq (.length (.field (tm_ 1) sV_ "value" "[B")) (.int (Int32.ofNat (txb_ 1).length))) ∧ (txb_ 1).length < 2 ^ 31 ∧ ∀ i : Nat, i < (txb_ 1).length → FLN[te_ 1 + 4 + i]? = some (.eq (.elem (.field (tm_ 1) sV_ "value" "[B") (.int (Int32.ofNat i))) (.int (Int32.ofInt ((txb_ 1).getD i 0))))) := by decide +kernel
set_option maxRecDepth 100000 in
theorem tx_2 : (FLN[te_ 2]? = some (.exactly (tm_ 2) sV_) ∧ FLN[te_ 2 + 1]? = some (.eq (.field (tm_ 2) sV_ "coder" "B") (.int 0)) ∧ FLN[te_ 2 + 2]? = some (.arrayOf (.field (tm_ 2) sV_ "value" "[B") .byte) ∧ FLN[te_ 2 + 3]? = some (.eq (.length (.field (tm_ 2) sV_ "value" "[B")) (.int (Int32.ofNat (txb_ 2).length))) ∧ (txb_ 2).length < 2 ^ 31 ∧ ∀ i : Nat, i < (txb_ 2).length → FLN[te_ 2 + 4 + i]? = some (.eq (.elem (.field (tm_ 2) sV_ "value" "[B") (.int (Int32.ofNat i))) (.int (Int32.ofInt ((txb_ 2).getD i 0))))) := by decide +kernel
set_option maxRecDepth 100000 in
theorem tx_3 : (FLN[te_ 3]? = some (.exactly (tm_ 3) sV_) ∧ FLN[te_ 3 + 1]? = some (.eq (.field (tm_ 3) sV_ "coder" "B") (.int 0)) ∧ FLN[te_ 3 + 2]? = some (.arrayOf (.field (tm_ 3) sV_ "value" "[B") .byte) ∧ FLN[te_ 3 + 3]? = some (.eq (.length (.field (tm_ 3) sV_ "value" "[B")) (.int (Int32.ofNat (txb_ 3).length))) ∧ (txb_ 3).length < 2 ^ 31 ∧ ∀ i : Nat, i < (txb_ 3).length → FLN[te_ 3 + 4 + i]? = some (.eq (.elem (.field (tm_ 3) sV_ "value" "[B") (.int (Int32.ofNat i))) (.int (Int32.ofInt ((txb_ 3).getD i 0))))) := by decide +kernel
set_option maxRecDepth 100000 in
theorem tx_4 : (FLN[te_ 4]? = some (.exactly (tm_ 4) sV_) ∧ FLN[te_ 4 + 1]? = some (.eq (.field (tm_ 4) sV_ "coder" "B") (.int 0)) ∧ FLN[te_ 4 + 2]? = some (.arrayOf (.field (tm_ 4) sV_ "value" "[B") .byte) ∧ FLN[te_ 4 + 3]? = some (.eq (.length (.field (tm_ 4) sV_ "value" "[B")) (.int (Int32.ofNat (txb_ 4).length))) ∧ (txb_ 4).length < 2 ^ 31 ∧ ∀ i : Nat, i < (txb_ 4).length → FLN[te_ 4 + 4 + i]? = some (.eq (.elem (.field (tm_ 4) sV_ "value" "[B") (.int (Int32.ofNat i))) (.int (Int32.ofInt ((txb_ 4).getD i 0))))) := by decide +kernel
set_option maxRecDepth 100000 in
theorem tx_5 : (FLN[te_ 5]? = some (.exactly (tm_ 5) sV_) ∧ FLN[te_ 5 + 1]? = some (.eq (.field (tm_ 5) sV_ "coder" "B") (.int 0)) ∧ FLN[te_ 5 + 2]? = some (.arrayOf (.field (tm_ 5) sV_ "value" "[B") .byte) ∧ FLN[te_ 5 + 3]? = some (.eq (.length (.field (tm_ 5) sV_ "value" "[B")) (.int (Int32.ofNat (txb_ 5).length))) ∧ (txb_ 5).length < 2 ^ 31 ∧ ∀ i : Nat, i < (txb_ 5).length → FLN[te_ 5 + 4 + i]? = some (.eq (.elem (.field (tm_ 5) sV_ "value" "[B") (.int (Int32.ofNat i))) (.int (Int32.ofInt ((txb_ 5).getD i 0))))) := by decide +kernel
set_option maxRecDepth 100000 in
theorem tx_6 : (FLN[te_ 6]? = some (.exactly (tm_ 6) sV_) ∧ FLN[te_ 6 + 1]? = some (.eq (.field (tm_ 6) sV_ "coder" "B") (.int 0)) ∧ FLN[te_ 6 + 2]? = some (.arrayOf (.field (tm_ 6) sV_ "value" "[B") .byte) ∧ FLN[te_ 6 + 3]? = some (.eq (.length (.field (tm_ 6) sV_ "value" "[B")) (.int (Int32.ofNat (txb_ 6).length))) ∧ (txb_ 6).length < 2 ^ 31 ∧ ∀ i : Nat, i < (txb_ 6).length → FLN[te_ 6 + 4 + i]? = some (.eq (.elem (.field (tm_ 6) sV_ "value" "[B") (.int (Int32.ofNat i))) (.int (Int32.ofInt ((txb_ 6).getD i 0))))) := by decide +kernel
set_option maxRecDepth 100000 in
theorem tx_7 : (FLN[te_ 7]? = some (.exactly (tm_ 7) sV_) ∧ FLN[te_ 7 + 1]? = some (.eq (.field (tm_ 7) sV_ "coder" "B") (.int 0)) ∧ FLN[te_ 7 + 2]? = some (.arrayOf (.field (tm_ 7) sV_ "value" "[B") .byte) ∧ FLN[te_ 7 + 3]? = some (.eq (.length (.field (tm_ 7) sV_ "value" "[B")) (.int (Int32.ofNat (txb_ 7).length))) ∧ (txb_ 7).length < 2 ^ 31 ∧ ∀ i : Nat, i < (txb_ 7).length → FLN[te_ 7 + 4 + i]? = some (.eq (.elem (.field (tm_ 7) sV_ "value" "[B") (.int (Int32.ofNat i))) (.int (Int32.ofInt ((txb_ 7).getD i 0))))) := by decide +kernel
set_option maxRecDepth 100000 in
theorem tx_8 : (FLN[te_ 8]? = some (.exactly (tm_ 8) sV_) ∧ FLN[te_ 8 + 1]? = some (.eq (.field (tm_ 8) sV_ "coder" "B") (.int 0)) ∧ FLN[te_ 8 + 2]? = some (.arrayOf (.field (tm_ 8) sV_ "value" "[B") .byte) ∧ FLN[te_ 8 + 3]? = some (.eq (.length (.field (tm_ 8) sV_ "value" "[B")) (.int (Int32.ofNat (txb_ 8).length))) ∧ (txb_ 8).length < 2 ^ 31 ∧ ∀ i : Nat, i < (txb_ 8).length → FLN[te_ 8 + 4 + i]? = some (.eq (.elem (.field (tm_ 8) sV_ "value" "[B") (.int (Int32.ofNat i))) (.int (Int32.ofInt ((txb_ 8).getD i 0))))) := by decide +kernel
set_option maxRecDepth 100000 in
theorem tx_9 : (FLN[te_ 9]? = some (.exactly (tm_ 9) sV_) ∧ FLN[te_ 9 + 1]? = some (.eq (.field (tm_ 9) sV_ "coder" "B") (.int 0)) ∧ FLN[te_ 9 + 2]? = some (.arrayOf (.field (tm_ 9) sV_ "value" "[B") .byte) ∧ FLN[te_ 9 + 3]? = some (.eq (.length (.field (tm_ 9) sV_ "value" "[B")) (.int (Int32.ofNat (txb_ 9).length))) ∧ (txb_ 9).length < 2 ^ 31 ∧ ∀ i : Nat, i < (txb_ 9).length → FLN[te_ 9 + 4 + i]? = some (.eq (.elem (.field (tm_ 9) sV_ "value" "[B") (.int (Int32.ofNat i))) (.int (Int32.ofInt ((txb_ 9).getD i 0))))) := by decide +kernel
set_option maxRecDepth 100000 in
theorem tx_10 : (FLN[te_ 10]? = some (.exactly (tm_ 10) sV_) ∧ FLN[te_ 10 + 1]? = some (.eq (.field (tm_ 10) sV_ "coder" "B") (.int 0)) ∧ FLN[te_ 10 + 2]? = some (.arrayOf (.field (tm_ 10) sV_ "value" "[B") .byte) ∧ FLN[te_ 10 + 3]? = some (.eq (.length (.field (tm_ 10) sV_ "value" "[B")) (.int (Int32.ofNat (txb_ 10).length))) ∧ (txb_ 10).length < 2 ^ 31 ∧ ∀ i : Nat, i < (txb_ 10).length → FLN[te_ 10 + 4 + i]? = some (.eq (.elem (.field (tm_ 10) sV_ "value" "[B") (.int (Int32.ofNat i))) (.int (Int32.ofInt ((txb_ 10).getD i 0))))) := by decide +kernel
set_option maxRecDepth 100000 in
theorem tx_11 : (FLN[te_ 11]? = some (.exactly (tm_ 11) sV_) ∧ FLN[te_ 11 + 1]? = some (.eq (.field (tm_ 11) sV_ "coder" "B") (.int 0)) ∧ FLN[te_ 11 + 2]? = some (.arrayOf (.field (tm_ 11) sV_ "value" "[B") .byte) ∧ FLN[te_ 11 + 3]? = some (.eq (.length (.field (tm_ 11) sV_ "value" "[B")) (.int (Int32.ofNat (txb_ 11).length))) ∧ (txb_ 11).length < 2 ^ 31 ∧ ∀ i : Nat, i < (txb_ 11).length → FLN[te_ 11 + 4 + i]? = some (.eq (.elem (.field (tm_ 11) sV_ "value" "[B") (.int (Int32.ofNat i))) (.int (Int32.ofInt ((txb_ 11).getD i 0))))) := by decide +kernel
set_option maxRecDepth 100000 in
theorem tx_12 : (FLN[te_ 12]? = some (.exactly (tm_ 12) sV_) ∧ FLN[te_ 12 + 1]? = some (.eq (.field (tm_ 12) sV_ "coder" "B") (.int 0)) ∧ FLN[te_ 12 + 2]? = some (.arrayOf (.field (tm_ 12) sV_ "value" "[B") .byte) ∧ FLN[te_ 12 + 3]? = some (.eq (.length (.field (tm_ 12) sV_ "value" "[B")) (.int (Int32.ofNat (txb_ 12).length))) ∧ (txb_ 12).length < 2 ^ 31 ∧ ∀ i : Nat, i < (txb_ 12).length → FLN[te_ 12 + 4 + i]? = some (.eq (.elem (.field (tm_ 12) sV_ "value" "[B") (.int (Int32.ofNat i))) (.int (Int32.ofInt ((txb_ 12).getD i 0))))) := by decide +kernel
set_option maxRecDepth 100000 in
theorem tx_13 : (FLN[te_ 13]? = some (.exactly (tm_ 13) sV_) ∧ FLN[te_ 13 + 1]? = some (.eq (.field (tm_ 13) sV_ "coder" "B") (.int 0)) ∧ FLN[te_ 13 + 2]? = some (.arrayOf (.field (tm_ 13) sV_ "value" "[B") .byte) ∧ FLN[te_ 13 + 3]? = some (.eq (.length (.field (tm_ 13) sV_ "value" "[B")) (.int (Int32.ofNat (txb_ 13).length))) ∧ (txb_ 13).length < 2 ^ 31 ∧ ∀ i : Nat, i < (txb_ 13).length → FLN[te_ 13 + 4 + i]? = some (.eq (.elem (.field (tm_ 13) sV_ "value" "[B") (.int (Int32.ofNat i))) (.int (Int32.ofInt ((txb_ 13).getD i 0))))) := by decide +kernel
set_option maxRecDepth 100000 in
theorem tx_14 : (FLN[te_ 14]? = some (.exactly (tm_ 14) sV_) ∧ FLN[te_ 14 + 1]? = some (.eq (.field (tm_ 14) sV_ "coder" "B") (.int 0)) ∧ FLN[te_ 14 + 2]? = some (.arrayOf (.field (tm_ 14) sV_ "value" "[B") .byte) ∧ FLN[te_ 14 + 3]? = some (.eq (.length (.field (tm_ 14) sV_ "value" "[B")) (.int (Int32.ofNat (txb_ 14).length))) ∧ (txb_ 14).length < 2 ^ 31 ∧ ∀ i : Nat, i < (txb_ 14).length → FLN[te_ 14 + 4 + i]? = some (.eq (.elem (.field (tm_ 14) sV_ "value" "[B") (.int (Int32.ofNat i))) (.int (Int32.ofInt ((txb_ 14).getD i 0))))) := by decide +kernel
set_option maxRecDepth 100000 in
theorem tx_15 : (FLN[te_ 15]? = some (.exactly (tm_ 15) sV_) ∧ FLN[te_ 15 + 1]? = some (.eq (.field (tm_ 15) sV_ "coder" "B") (.int 0)) ∧ FLN[te_ 15 + 2]? = some (.arrayOf (.field (tm_ 15) sV_ "value" "[B") .byte) ∧ FLN[te_ 15 + 3]? = some (.eq (.length (.field (tm_ 15) sV_ "value" "[B")) (.int (Int32.ofNat (txb_ 15).length))) ∧ (txb_ 15).length < 2 ^ 31 ∧ ∀ i : Nat, i < (txb_ 15).length → FLN[te_ 15 + 4 + i]? = some (.eq (.elem (.field (tm_ 15) sV_ "value" "[B") (.int (Int32.ofNat i))) (.int (Int32.ofInt ((txb_ 15).getD i 0))))) := by decide +kernel
set_option maxRecDepth 100000 in
theorem tx_16 : (FLN[te_ 16]? = some (.exactly (tm_ 16) sV_) ∧ FLN[te_ 16 + 1]? = some (.eq (.field (tm_ 16) sV_ "coder" "B") (.int 0)) ∧ FLN[te_ 16 + 2]? = some (.arrayOf (.field (tm_ 16) sV_ "value" "[B") .byte) ∧ FLN[te_ 16 + 3]? = some (.eq (.length (.field (tm_ 16) sV_ "value" "[B")) (.int (Int32.ofNat (txb_ 16).length))) ∧ (txb_ 16).length < 2 ^ 31 ∧ ∀ i : Nat, i < (txb_ 16).length → FLN[te_ 16 + 4 + i]? = some (.eq (.elem (.field (tm_ 16) sV_ "value" "[B") (.int (Int32.ofNat i))) (.int (Int32.ofInt ((txb_ 16).getD i 0))))) := by decide +kernel
set_option maxRecDepth 100000 in
theorem tx_17 : (FLN[te_ 17]? = some (.exactly (tm_ 17) sV_) ∧ FLN[te_ 17 + 1]? = some (.eq (.field (tm_ 17) sV_ "coder" "B") (.int 0)) ∧ FLN[te_ 17 + 2]? = some (.arrayOf (.field (tm_ 17) sV_ "value" "[B") .byte) ∧ FLN[te_ 17 + 3]? = some (.eq (.length (.field (tm_ 17) sV_ "value" "[B")) (.int (Int32.ofNat (txb_ 17).length))) ∧ (txb_ 17).length < 2 ^ 31 ∧ ∀ i : Nat, i < (txb_ 17).length → FLN[te_ 17 + 4 + i]? = some (.eq (.elem (.field (tm_ 17) sV_ "value" "[B") (.int (Int32.ofNat i))) (.int (Int32.ofInt ((txb_ 17).getD i 0))))) := by decide +kernel
set_option maxRecDepth 100000 in
theorem tx_18 : (FLN[te_ 18]? = some (.exactly (tm_ 18) sV_) ∧ FLN[te_ 18 + 1]? = some (.eq (.field (tm_ 18) sV_ "coder" "B") (.int 0)) ∧ FLN[te_ 18 + 2]? = some (.arrayOf (.field (tm_ 18) sV_ "value" "[B") .byte) ∧ FLN[te_ 18 + 3]? = some (.eq (.length (.field (tm_ 18) sV_ "value" "[B")) (.int (Int32.ofNat (txb_ 18).length))) ∧ (txb_ 18).length < 2 ^ 31 ∧ ∀ i : Nat, i < (txb_ 18).length → FLN[te_ 18 + 4 + i]? = some (.eq (.elem (.field (tm_ 18) sV_ "value" "[B") (.int (Int32.ofNat i))) (.int (Int32.ofInt ((txb_ 18).getD i 0))))) := by decide +kernel
set_option maxRecDepth 100000 in
theorem tx_19 : (FLN[te_ 19]? = some (.exactly (tm_ 19) sV_) ∧ FLN[te_ 19 + 1]? = some (.eq (.field (tm_ 19) sV_ "coder" "B") (.int 0)) ∧ FLN[te_ 19 + 2]? = some (.arrayOf (.field (tm_ 19) sV_ "value" "[B") .byte) ∧ FLN[te_ 19 + 3]? = some (.eq (.length (.field (tm_ 19) sV_ "value" "[B")) (.int (Int32.ofNat (txb_ 19).length))) ∧ (txb_ 19).length < 2 ^ 31 ∧ ∀ i : Nat, i < (txb_ 19).length → FLN[te_ 19 + 4 + i]? = some (.eq (.elem (.field (tm_ 19) sV_ "value" "[B") (.int (Int32.ofNat i))) (.int (Int32.ofInt ((txb_ 19).getD i 0))))) := by decide +kernel
set_option maxRecDepth 100000 in
theorem tx_20 : (FLN[te_ 20]? = some (.exactly (tm_ 20) sV_) ∧ FLN[te_ 20 + 1]? = some (.eq (.field (tm_ 20) sV_ "coder" "B") (.int 0)) ∧ FLN[te_ 20 + 2]? = some (.arrayOf (.field (tm_ 20) sV_ "value" "[B") .byte) ∧ FLN[te_ 20 + 3]? = some (.eq (.length (.field (tm_ 20) sV_ "value" "[B")) (.int (Int32.ofNat (txb_ 20).length))) ∧ (txb_ 20).length < 2 ^ 31 ∧ ∀ i : Nat, i < (txb_ 20).length → FLN[te_ 20 + 4 + i]? = some (.eq (.elem (.field (tm_ 20) sV_ "value" "[B") (.int (Int32.ofNat i))) (.int (Int32.ofInt ((txb_ 20).getD i 0))))) := by decide +kernel
set_option maxRecDepth 100000 in
theorem tx_21 : (FLN[te_ 21]? = some (.exactly (tm_ 21) sV_) ∧ FLN[te_ 21 + 1]? = some (.eq (.field (tm_ 21) sV_ "coder" "B") (.int 0)) ∧ FLN[te_ 21 + 2]? = some (.arrayOf (.field (tm_ 21) sV_ "value" "[B") .byte) ∧ FLN[te_ 21 + 3]? = some (.eq (.length (.field (tm_ 21) sV_ "value" "[B")) (.int (Int32.ofNat (txb_ 21).length))) ∧ (txb_ 21).length < 2 ^ 31 ∧ ∀ i : Nat, i < (txb_ 21).length → FLN[te_ 21 + 4 + i]? = some (.eq (.elem (.field (tm_ 21) sV_ "value" "[B") (.int (Int32.ofNat i))) (.int (Int32.ofInt ((txb_ 21).getD i 0))))) := by decide +kernel
set_option maxRecDepth 100000 in
theorem tx_22 : (FLN[te_ 22]? = some (.exactly (tm_ 22) sV_) ∧ FLN[te_ 22 + 1]? = some (.eq (.field (tm_ 22) sV_ "coder" "B") (.int 0)) ∧ FLN[te_ 22 + 2]? = some (.arrayOf (.field (tm_ 22) sV_ "value" "[B") .byte) ∧ FLN[te_ 22 + 3]? = some (.eq (.length (.field (tm_ 22) sV_ "value" "[B")) (.int (Int32.ofNat (txb_ 22).length))) ∧ (txb_ 22).length < 2 ^ 31 ∧ ∀ i : Nat, i < (txb_ 22).length → FLN[te_ 22 + 4 + i]? = some (.eq (.elem (.field (tm_ 22) sV_ "value" "[B") (.int (Int32.ofNat i))) (.int (Int32.ofInt ((txb_ 22).getD i 0))))) := by decide +kernel
set_option maxRecDepth 100000 in
theorem tx_23 : (FLN[te_ 23]? = some (.exactly (tm_ 23) sV_) ∧ FLN[te_ 23 + 1]? = some (.eq (.field (tm_ 23) sV_ "coder" "B") (.int 0)) ∧ FLN[te_ 23 + 2]? = some (.arrayOf (.field (tm_ 23) sV_ "value" "[B") .byte) ∧ FLN[te_ 23 + 3]? = some (.eq (.length (.field (tm_ 23) sV_ "value" "[B")) (.int (Int32.ofNat (txb_ 23).length))) ∧ (txb_ 23).length < 2 ^ 31 ∧ ∀ i : Nat, i < (txb_ 23).length → FLN[te_ 23 + 4 + i]? = some (.eq (.elem (.field (tm_ 23) sV_ "value" "[B") (.int (Int32.ofNat i))) (.int (Int32.ofInt ((txb_ 23).getD i 0))))) := by decide +kernel
set_option maxRecDepth 100000 in
theorem tx_24 : (FLN[te_ 24]? = some (.exactly (tm_ 24) sV_) ∧ FLN[te_ 24 + 1]? = some (.eq (.field (tm_ 24) sV_ "coder" "B") (.int 0)) ∧ FLN[te_ 24 + 2]? = some (.arrayOf (.field (tm_ 24) sV_ "value" "[B") .byte) ∧ FLN[te_ 24 + 3]? = some (.eq (.length (.field (tm_ 24) sV_ "value" "[B")) (.int (Int32.ofNat (txb_ 24).length))) ∧ (txb_ 24).length < 2 ^ 31 ∧ ∀ i : Nat, i < (txb_ 24).length → FLN[te_ 24 + 4 + i]? = some (.eq (.elem (.field (tm_ 24) sV_ "value" "[B") (.int (Int32.ofNat i))) (.int (Int32.ofInt ((txb_ 24).getD i 0))))) := by decide +kernel
set_option maxRecDepth 100000 in
theorem tx_25 : (FLN[te_ 25]? = some (.exactly (tm_ 25) sV_) ∧ FLN[te_ 25 + 1]? = some (.eq (.field (tm_ 25) sV_ "coder" "B") (.int 0)) ∧ FLN[te_ 25 + 2]? = some (.arrayOf (.field (tm_ 25) sV_ "value" "[B") .byte) ∧ FLN[te_ 25 + 3]? = some (.eq (.length (.field (tm_ 25) sV_ "value" "[B")) (.int (Int32.ofNat (txb_ 25).length))) ∧ (txb_ 25).length < 2 ^ 31 ∧ ∀ i : Nat, i < (txb_ 25).length → FLN[te_ 25 + 4 + i]? = some (.eq (.elem (.field (tm_ 25) sV_ "value" "[B") (.int (Int32.ofNat i))) (.int (Int32.ofInt ((txb_ 25).getD i 0))))) := by decide +kernel
set_option maxRecDepth 100000 in
theorem tx_26 : (FLN[te_ 26]? = some (.exactly (tm_ 26) sV_) ∧ FLN[te_ 26 + 1]? = some (.eq (.field (tm_ 26) sV_ "coder" "B") (.int 0)) ∧ FLN[te_ 26 + 2]? = some (.arrayOf (.field (tm_ 26) sV_ "value" "[B") .byte) ∧ FLN[te_ 26 + 3]? = some (.eq (.length (.field (tm_ 26) sV_ "value" "[B")) (.int (Int32.ofNat (txb_ 26).length))) ∧ (txb_ 26).length < 2 ^ 31 ∧ ∀ i : Nat, i < (txb_ 26).length → FLN[te_ 26 + 4 + i]? = some (.eq (.elem (.field (tm_ 26) sV_ "value" "[B") (.int (Int32.ofNat i))) (.int (Int32.ofInt ((txb_ 26).getD i 0))))) := by decide +kernel
set_option maxRecDepth 100000 in
theorem tx_27 : (FLN[te_ 27]? = some (.exactly (tm_ 27) sV_) ∧ FLN[te_ 27 + 1]? = some (.eq (.field (tm_ 27) sV_ "coder" "B") (.int 0)) ∧ FLN[te_ 27 + 2]? = some (.arrayOf (.field (tm_ 27) sV_ "value" "[B") .byte) ∧ FLN[te_ 27 + 3]? = some (.eq (.length (.field (tm_ 27) sV_ "value" "[B")) (.int (Int32.ofNat (txb_ 27).length))) ∧ (txb_ 27).length < 2 ^ 31 ∧ ∀ i : Nat, i < (txb_ 27).length → FLN[te_ 27 + 4 + i]? = some (.eq (.elem (.field (tm_ 27) sV_ "value" "[B") (.int (Int32.ofNat i))) (.int (Int32.ofInt ((txb_ 27).getD i 0))))) := by decide +kernel
set_option maxRecDepth 100000 in
theorem tx_28 : (FLN[te_ 28]? = some (.exactly (tm_ 28) sV_) ∧ FLN[te_ 28 + 1]? = some (.eq (.field (tm_ 28) sV_ "coder" "B") (.int 0)) ∧ FLN[te_ 28 + 2]? = some (.arrayOf (.field (tm_ 28) sV_ "value" "[B") .byte) ∧ FLN[te_ 28 + 3]? = some (.eq (.length (.field (tm_ 28) sV_ "value" "[B")) (.int (Int32.ofNat (txb_ 28).length))) ∧ (txb_ 28).length < 2 ^ 31 ∧ ∀ i : Nat, i < (txb_ 28).length → FLN[te_ 28 + 4 + i]? = some (.eq (.elem (.field (tm_ 28) sV_ "value" "[B") (.int (Int32.ofNat i))) (.int (Int32.ofInt ((txb_ 28).getD i 0))))) := by decide +kernel
set_option maxRecDepth 100000 in
theorem tx_29 : (FLN[te_ 29]? = some (.exactly (tm_ 29) sV_) ∧ FLN[te_ 29 + 1]? = some (.eq (.field (tm_ 29) sV_ "coder" "B") (.int 0)) ∧ FLN[te_ 29 + 2]? = some (.arrayOf (.field (tm_ 29) sV_ "value" "[B") .byte) ∧ FLN[te_ 29 + 3]? = some (.eq (.length (.field (tm_ 29) sV_ "value" "[B")) (.int (Int32.ofNat (txb_ 29).length))) ∧ (txb_ 29).length < 2 ^ 31 ∧ ∀ i : Nat, i < (txb_ 29).length → FLN[te_ 29 + 4 + i]? = some (.eq (.elem (.field (tm_ 29) sV_ "value" "[B") (.int (Int32.ofNat i))) (.int (Int32.ofInt ((txb_ 29).getD i 0))))) := by decide +kernel
set_option maxRecDepth 100000 in
theorem tx_30 : (FLN[te_ 30]? = some (.exactly (tm_ 30) sV_) ∧ FLN[te_ 30 + 1]? = some (.eq (.field (tm_ 30) sV_ "coder" "B") (.int 0)) ∧ FLN[te_ 30 + 2]? = some (.arrayOf (.field (tm_ 30) sV_ "value" "[B") .byte) ∧ FLN[te_ 30 + 3]? = some (.eq (.length (.field (tm_ 30) sV_ "value" "[B")) (.int (Int32.ofNat (txb_ 30).length))) ∧ (txb_ 30).length < 2 ^ 31 ∧ ∀ i : Nat, i < (txb_ 30).length → FLN[te_ 30 + 4 + i]? = some (.eq (.elem (.field (tm_ 30) sV_ "value" "[B") (.int (Int32.ofNat i))) (.int (Int32.ofInt ((txb_ 30).getD i 0))))) := by decide +kernel
set_option maxRecDepth 100000 in
theorem tx_31 : (FLN[te_ 31]? = some (.exactly (tm_ 31) sV_) ∧ FLN[te_ 31 + 1]? = some (.eq (.field (tm_ 31) sV_ "coder" "B") (.int 0)) ∧ FLN[te_ 31 + 2]? = some (.arrayOf (.field (tm_ 31) sV_ "value" "[B") .byte) ∧ FLN[te_ 31 + 3]? = some (.eq (.length (.field (tm_ 31) sV_ "value" "[B")) (.int (Int32.ofNat (txb_ 31).length))) ∧ (txb_ 31).length < 2 ^ 31 ∧ ∀ i : Nat, i < (txb_ 31).length → FLN[te_ 31 + 4 + i]? = some (.eq (.elem (.field (tm_ 31) sV_ "value" "[B") (.int (Int32.ofNat i))) (.int (Int32.ofInt ((txb_ 31).getD i 0))))) := by decide +kernel
set_option maxRecDepth 100000 in
theorem tx_32 : (FLN[te_ 32]? = some (.exactly (tm_ 32) sV_) ∧ FLN[te_ 32 + 1]? = some (.eq (.field (tm_ 32) sV_ "coder" "B") (.int 0)) ∧ FLN[te_ 32 + 2]? = some (.arrayOf (.field (tm_ 32) sV_ "value" "[B") .byte) ∧ FLN[te_ 32 + 3]? = some (.eq (.length (.field (tm_ 32) sV_ "value" "[B")) (.int (Int32.ofNat (txb_ 32).length))) ∧ (txb_ 32).length < 2 ^ 31 ∧ ∀ i : Nat, i < (txb_ 32).length → FLN[te_ 32 + 4 + i]? = some (.eq (.elem (.field (tm_ 32) sV_ "value" "[B") (.int (Int32.ofNat i))) (.int (Int32.ofInt ((txb_ 32).getD i 0))))) := by decide +kernel
set_option maxRecDepth 100000 in
theorem tx_33 : (FLN[te_ 33]? = some (.exactly (tm_ 33) sV_) ∧ FLN[te_ 33 + 1]? = some (.eq (.field (tm_ 33) sV_ "coder" "B") (.int 0)) ∧ FLN[te_ 33 + 2]? = some (.arrayOf (.field (tm_ 33) sV_ "value" "[B") .byte) ∧ FLN[te_ 33 + 3]? = some (.eq (.length (.field (tm_ 33) sV_ "value" "[B")) (.int (Int32.ofNat (txb_ 33).length))) ∧ (txb_ 33).length < 2 ^ 31 ∧ ∀ i : Nat, i < (txb_ 33).length → FLN[te_ 33 + 4 + i]? = some (.eq (.elem (.field (tm_ 33) sV_ "value" "[B") (.int (Int32.ofNat i))) (.int (Int32.ofInt ((txb_ 33).getD i 0))))) := by decide +kernel
set_option maxRecDepth 100000 in
theorem tx_34 : (FLN[te_ 34]? = some (.exactly (tm_ 34) sV_) ∧ FLN[te_ 34 + 1]? = some (.eq (.field (tm_ 34) sV_ "coder" "B") (.int 0)) ∧ FLN[te_ 34 + 2]? = some (.arrayOf (.field (tm_ 34) sV_ "value" "[B") .byte) ∧ FLN[te_ 34 + 3]? = some (.eq (.length (.field (tm_ 34) sV_ "value" "[B")) (.int (Int32.ofNat (txb_ 34).length))) ∧ (txb_ 34).length < 2 ^ 31 ∧ ∀ i : Nat, i < (txb_ 34).length → FLN[te_ 34 + 4 + i]? = some (.eq (.elem (.field (tm_ 34) sV_ "value" "[B") (.int (Int32.ofNat i))) (.int (Int32.ofInt ((txb_ 34).getD i 0))))) := by decide +kernel
set_option maxRecDepth 100000 in
theorem tx_35 : (FLN[te_ 35]? = some (.exactly (tm_ 35) sV_) ∧ FLN[te_ 35 + 1]? = some (.eq (.field (tm_ 35) sV_ "coder" "B") (.int 0)) ∧ FLN[te_ 35 + 2]? = some (.arrayOf (.field (tm_ 35) sV_ "value" "[B") .byte) ∧ FLN[te_ 35 + 3]? = some (.eq (.length (.field (tm_ 35) sV_ "value" "[B")) (.int (Int32.ofNat (txb_ 35).length))) ∧ (txb_ 35).length < 2 ^ 31 ∧ ∀ i : Nat, i < (txb_ 35).length → FLN[te_ 35 + 4 + i]? = some (.eq (.elem (.field (tm_ 35) sV_ "value" "[B") (.int (Int32.ofNat i))) (.int (Int32.ofInt ((txb_ 35).getD i 0))))) := by decide +kernel
set_option maxRecDepth 100000 in
theorem tx_36 : (FLN[te_ 36]? = some (.exactly (tm_ 36) sV_) ∧ FLN[te_ 36 + 1]? = some (.eq (.field (tm_ 36) sV_ "coder" "B") (.int 0)) ∧ FLN[te_ 36 + 2]? = some (.arrayOf (.field (tm_ 36) sV_ "value" "[B") .byte) ∧ FLN[te_ 36 + 3]? = some (.eq (.length (.field (tm_ 36) sV_ "value" "[B")) (.int (Int32.ofNat (txb_ 36).length))) ∧ (txb_ 36).length < 2 ^ 31 ∧ ∀ i : Nat, i < (txb_ 36).length → FLN[te_ 36 + 4 + i]? = some (.eq (.elem (.field (tm_ 36) sV_ "value" "[B") (.int (Int32.ofNat i))) (.int (Int32.ofInt ((txb_ 36).getD i 0))))) := by decide +kernel
set_option maxRecDepth 100000 in
theorem tx_37 : (FLN[te_ 37]? = some (.exactly (tm_ 37) sV_) ∧ FLN[te_ 37 + 1]? = some (.eq (.field (tm_ 37) sV_ "coder" "B") (.int 0)) ∧ FLN[te_ 37 + 2]? = some (.arrayOf (.field (tm_ 37) sV_ "value" "[B") .byte) ∧ FLN[te_ 37 + 3]? = some (.eq (.length (.field (tm_ 37) sV_ "value" "[B")) (.int (Int32.ofNat (txb_ 37).length))) ∧ (txb_ 37).length < 2 ^ 31 ∧ ∀ i : Nat, i < (txb_ 37).length → FLN[te_ 37 + 4 + i]? = some (.eq (.elem (.field (tm_ 37) sV_ "value" "[B") (.int (Int32.ofNat i))) (.int (Int32.ofInt ((txb_ 37).getD i 0))))) := by decide +kernel
set_option maxRecDepth 100000 in
theorem tx_38 : (FLN[te_ 38]? = some (.exactly (tm_ 38) sV_) ∧ FLN[te_ 38 + 1]? = some (.eq (.field (tm_ 38) sV_ "coder" "B") (.int 0)) ∧ FLN[te_ 38 + 2]? = some (.arrayOf (.field (tm_ 38) sV_ "value" "[B") .byte) ∧ FLN[te_ 38 + 3]? = some (.eq (.length (.field (tm_ 38) sV_ "value" "[B")) (.int (Int32.ofNat (txb_ 38).length))) ∧ (txb_ 38).length < 2 ^ 31 ∧ ∀ i : Nat, i < (txb_ 38).length → FLN[te_ 38 + 4 + i]? = some (.eq (.elem (.field (tm_ 38) sV_ "value" "[B") (.int (Int32.ofNat i))) (.int (Int32.ofInt ((txb_ 38).getD i 0))))) := by decide +kernel
set_option maxRecDepth 100000 in
theorem tx_39 : (FLN[te_ 39]? = some (.exactly (tm_ 39) sV_) ∧ FLN[te_ 39 + 1]? = some (.eq (.field (tm_ 39) sV_ "coder" "B") (.int 0)) ∧ FLN[te_ 39 + 2]? = some (.arrayOf (.field (tm_ 39) sV_ "value" "[B") .byte) ∧ FLN[te_ 39 + 3]? = some (.eq (.length (.field (tm_ 39) sV_ "value" "[B")) (.int (Int32.ofNat (txb_ 39).length))) ∧ (txb_ 39).length < 2 ^ 31 ∧ ∀ i : Nat, i < (txb_ 39).length → FLN[te_ 39 + 4 + i]? = some (.eq (.elem (.field (tm_ 39) sV_ "value" "[B") (.int (Int32.ofNat i))) (.int (Int32.ofInt ((txb_ 39).getD i 0))))) := by decide +kernel
set_option maxRecDepth 100000 in
theorem tx_40 : (FLN[te_ 40]? = some (.exactly (tm_ 40) sV_) ∧ FLN[te_ 40 + 1]? = some (.eq (.field (tm_ 40) sV_ "coder" "B") (.int 0)) ∧ FLN[te_ 40 + 2]? = some (.arrayOf (.field (tm_ 40) sV_ "value" "[B") .byte) ∧ FLN[te_ 40 + 3]? = some (.eq (.length (.field (tm_ 40) sV_ "value" "[B")) (.int (Int32.ofNat (txb_ 40).length))) ∧ (txb_ 40).length < 2 ^ 31 ∧ ∀ i : Nat, i < (txb_ 40).length → FLN[te_ 40 + 4 + i]? = some (.eq (.elem (.field (tm_ 40) sV_ "value" "[B") (.int (Int32.ofNat i))) (.int (Int32.ofInt ((txb_ 40).getD i 0))))) := by decide +kernel
set_option maxRecDepth 100000 in
theorem tx_41 : (FLN[te_ 41]? = some (.exactly (tm_ 41) sV_) ∧ FLN[te_ 41 + 1]? = some (.eq (.field (tm_ 41) sV_ "coder" "B") (.int 0)) ∧ FLN[te_ 41 + 2]? = some (.arrayOf (.field (tm_ 41) sV_ "value" "[B") .byte) ∧ FLN[te_ 41 + 3]? = some (.eq (.length (.field (tm_ 41) sV_ "value" "[B")) (.int (Int32.ofNat (txb_ 41).length))) ∧ (txb_ 41).length < 2 ^ 31 ∧ ∀ i : Nat, i < (txb_ 41).length → FLN[te_ 41 + 4 + i]? = some (.eq (.elem (.field (tm_ 41) sV_ "value" "[B") (.int (Int32.ofNat i))) (.int (Int32.ofInt ((txb_ 41).getD i 0))))) := by decide +kernel
set_option maxRecDepth 100000 in
theorem tx_42 : (FLN[te_ 42]? = some (.exactly (tm_ 42) sV_) ∧ FLN[te_ 42 + 1]? = some (.eq (.field (tm_ 42) sV_ "coder" "B") (.int 0)) ∧ FLN[te_ 42 + 2]? = some (.arrayOf (.field (tm_ 42) sV_ "value" "[B") .byte) ∧ FLN[te_ 42 + 3]? = some (.eq (.length (.field (tm_ 42) sV_ "value" "[B")) (.int (Int32.ofNat (txb_ 42).length))) ∧ (txb_ 42).length < 2 ^ 31 ∧ ∀ i : Nat, i < (txb_ 42).length → FLN[te_ 42 + 4 + i]? = some (.eq (.elem (.field (tm_ 42) sV_ "value" "[B") (.int (Int32.ofNat i))) (.int (Int32.ofInt ((txb_ 42).getD i 0))))) := by decide +kernel
set_option maxRecDepth 100000 in
theorem tx_43 : (FLN[te_ 43]? = some (.exactly (tm_ 43) sV_) ∧ FLN[te_ 43 + 1]? = some (.eq (.field (tm_ 43) sV_ "coder" "B") (.int 0)) ∧ FLN[te_ 43 + 2]? = some (.arrayOf (.field (tm_ 43) sV_ "value" "[B") .byte) ∧ FLN[te_ 43 + 3]? = some (.eq (.length (.field (tm_ 43) sV_ "value" "[B")) (.int (Int32.ofNat (txb_ 43).length))) ∧ (txb_ 43).length < 2 ^ 31 ∧ ∀ i : Nat, i < (txb_ 43).length → FLN[te_ 43 + 4 + i]? = some (.eq (.elem (.field (tm_ 43) sV_ "value" "[B") (.int (Int32.ofNat i))) (.int (Int32.ofInt ((txb_ 43).getD i 0))))) := by decide +kernel
set_option maxRecDepth 100000 in
theorem wdd_0 : (FLN[wix_ 0]? = some (.exactly (wT_ 0) "WillHouse$Word") ∧ FLN[wix_ 0 + 1]? = some (.eq (.field (wT_ 0) "java/lang/Enum" "ordinal" "I") (.int (Int32.ofInt ((0 : Nat) : Int)))) ∧ FLN[wix_ 0 + 2]? = some (.eq (.field (wT_ 0) "WillHouse$Word" "letters" "Ljava/lang/String;") (tm_ 0)) ∧ FLN[257 + 0]? = some (.eq (.elem (.static "WillHouse" "WORDS" "[LWillHouse$Word;") (.int (Int32.ofNat 0))) (wT_ 0))) := by decide +kernel
set_option maxRecDepth 100000 in
theorem wdd_1 : (FLN[wix_ 1]? = some (.exactly (wT_ 1) "WillHouse$Word") ∧ FLN[wix_ 1 + 1]? = some (.eq (.field (wT_ 1) "java/lang/Enum" "ordinal" "I") (.int (Int32.ofInt ((1 : Nat) : Int)))) ∧ FLN[wix_ 1 + 2]? = some (.eq (.field (wT_ 1) "WillHouse$Word" "letters" "Ljava/lang/String;") (tm_ 1)) ∧ FLN[257 + 1]? = some (.eq (.elem (.static "WillHouse" "WORDS" "[LWillHouse$Word;") (.int (Int32.ofNat 1))) (wT_ 1))) := by decide +kernel
set_option maxRecDepth 100000 in
theorem wdd_2 : (FLN[wix_ 2]? = some (.exactly (wT_ 2) "WillHouse$Word") ∧ FLN[wix_ 2 + 1]? = some (.eq (.field (wT_ 2) "java/lang/Enum" "ordinal" "I") (.int (Int32.ofInt ((2 : Nat) : Int)))) ∧ FLN[wix_ 2 + 2]? = some (.eq (.field (wT_ 2) "WillHouse$Word" "letters" "Ljava/lang/String;") (tm_ 2)) ∧ FLN[257 + 2]? = some (.eq (.elem (.static "WillHouse" "WORDS" "[LWillHouse$Word;") (.int (Int32.ofNat 2))) (wT_ 2))) := by decide +kernel
set_option maxRecDepth 100000 in
theorem wdd_3 : (FLN[wix_ 3]? = some (.exactly (wT_ 3) "WillHouse$Word") ∧ FLN[wix_ 3 + 1]? = some (.eq (.field (wT_ 3) "java/lang/Enum" "ordinal" "I") (.int (Int32.ofInt ((3 : Nat) : Int)))) ∧ FLN[wix_ 3 + 2]? = some (.eq (.field (wT_ 3) "WillHouse$Word" "letters" "Ljava/lang/String;") (tm_ 3)) ∧ FLN[257 + 3]? = some (.eq (.elem (.static "WillHouse" "WORDS" "[LWillHouse$Word;") (.int (Int32.ofNat 3))) (wT_ 3))) := by decide +kernel
set_option maxRecDepth 100000 in
theorem wdd_4 : (FLN[wix_ 4]? = some (.exactly (wT_ 4) "WillHouse$Word") ∧ FLN[wix_ 4 + 1]? = some (.eq (.field (wT_ 4) "java/lang/Enum" "ordinal" "I") (.int (Int32.ofInt ((4 : Nat) : Int)))) ∧ FLN[wix_ 4 + 2]? = some (.eq (.field (wT_ 4) "WillHouse$Word" "letters" "Ljava/lang/String;") (tm_ 4)) ∧ FLN[257 + 4]? = some (.eq (.elem (.static "WillHouse" "WORDS" "[LWillHouse$Word;") (.int (Int32.ofNat 4))) (wT_ 4))) := by decide +kernel
set_option maxRecDepth 100000 in
theorem wdd_5 : (FLN[wix_ 5]? = some (.exactly (wT_ 5) "WillHouse$Word") ∧ FLN[wix_ 5 + 1]? = some (.eq (.field (wT_ 5) "java/lang/Enum" "ordinal" "I") (.int (Int32.ofInt ((5 : Nat) : Int)))) ∧ FLN[wix_ 5 + 2]? = some (.eq (.field (wT_ 5) "WillHouse$Word" "letters" "Ljava/lang/String;") (tm_ 5)) ∧ FLN[257 + 5]? = some (.eq (.elem (.static "WillHouse" "WORDS" "[LWillHouse$Word;") (.int (Int32.ofNat 5))) (wT_ 5))) := by decide +kernel
set_option maxRecDepth 100000 in
theorem wdd_6 : (FLN[wix_ 6]? = some (.exactly (wT_ 6) "WillHouse$Word") ∧ FLN[wix_ 6 + 1]? = some (.eq (.field (wT_ 6) "java/lang/Enum" "ordinal" "I") (.int (Int32.ofInt ((6 : Nat) : Int)))) ∧ FLN[wix_ 6 + 2]? = some (.eq (.field (wT_ 6) "WillHouse$Word" "letters" "Ljava/lang/String;") (tm_ 6)) ∧ FLN[257 + 6]? = some (.eq (.elem (.static "WillHouse" "WORDS" "[LWillHouse$Word;") (.int (Int32.ofNat 6))) (wT_ 6))) := by decide +kernel
set_option maxRecDepth 100000 in
theorem wdd_7 : (FLN[wix_ 7]? = some (.exactly (wT_ 7) "WillHouse$Word") ∧ FLN[wix_ 7 + 1]? = some (.eq (.field (wT_ 7) "java/lang/Enum" "ordinal" "I") (.int (Int32.ofInt ((7 : Nat) : Int)))) ∧ FLN[wix_ 7 + 2]? = some (.eq (.field (wT_ 7) "WillHouse$Word" "letters" "Ljava/lang/String;") (tm_ 7)) ∧ FLN[257 + 7]? = some (.eq (.elem (.static "WillHouse" "WORDS" "[LWillHouse$Word;") (.int (Int32.ofNat 7))) (wT_ 7))) := by decide +kernel
set_option maxRecDepth 100000 in
theorem wdd_8 : (FLN[wix_ 8]? = some (.exactly (wT_ 8) "WillHouse$Word") ∧ FLN[wix_ 8 + 1]? = some (.eq (.field (wT_ 8) "java/lang/Enum" "ordinal" "I") (.int (Int32.ofInt ((8 : Nat) : Int)))) ∧ FLN[wix_ 8 + 2]? = some (.eq (.field (wT_ 8) "WillHouse$Word" "letters" "Ljava/lang/String;") (tm_ 8)) ∧ FLN[257 + 8]? = some (.eq (.elem (.static "WillHouse" "WORDS" "[LWillHouse$Word;") (.int (Int32.ofNat 8))) (wT_ 8))) := by decide +kernel
set_option maxRecDepth 100000 in
theorem wdd_9 : (FLN[wix_ 9]? = some (.exactly (wT_ 9) "WillHouse$Word") ∧ FLN[wix_ 9 + 1]? = some (.eq (.field (wT_ 9) "java/lang/Enum" "ordinal" "I") (.int (Int32.ofInt ((9 : Nat) : Int)))) ∧ FLN[wix_ 9 + 2]? = some (.eq (.field (wT_ 9) "WillHouse$Word" "letters" "Ljava/lang/String;") (tm_ 9)) ∧ FLN[257 + 9]? = some (.eq (.elem (.static "WillHouse" "WORDS" "[LWillHouse$Word;") (.int (Int32.ofNat 9))) (wT_ 9))) := by decide +kernel
set_option maxRecDepth 100000 in
theorem wdd_10 : (FLN[wix_ 10]? = some (.exactly (wT_ 10) "WillHouse$Word") ∧ FLN[wix_ 10 + 1]? = some (.eq (.field (wT_ 10) "java/lang/Enum" "ordinal" "I") (.int (Int32.ofInt ((10 : Nat) : Int)))) ∧ FLN[wix_ 10 + 2]? = some (.eq (.field (wT_ 10) "WillHouse$Word" "letters" "Ljava/lang/String;") (tm_ 10)) ∧ FLN[257 + 10]? = some (.eq (.elem (.static "WillHouse" "WORDS" "[LWillHouse$Word;") (.int (Int32.ofNat 10))) (wT_ 10))) := by decide +kernel
set_option maxRecDepth 100000 in
theorem wdd_11 : (FLN[wix_ 11]? = some (.exactly (wT_ 11) "WillHouse$Word") ∧ FLN[wix_ 11 + 1]? = some (.eq (.field (wT_ 11) "java/lang/Enum" "ordinal" "I") (.int (Int32.ofInt ((11 : Nat) : Int)))) ∧ FLN[wix_ 11 + 2]? = some (.eq (.field (wT_ 11) "WillHouse$Word" "letters" "Ljava/lang/String;") (tm_ 11)) ∧ FLN[257 + 11]? = some (.eq (.elem (.static "WillHouse" "WORDS" "[LWillHouse$Word;") (.int (Int32.ofNat 11))) (wT_ 11))) := by decide +kernel
set_option maxRecDepth 100000 in
theorem wdd_12 : (FLN[wix_ 12]? = some (.exactly (wT_ 12) "WillHouse$Word") ∧ FLN[wix_ 12 + 1]? = some (.eq (.field (wT_ 12) "java/lang/Enum" "ordinal" "I") (.int (Int32.ofInt ((12 : Nat) : Int)))) ∧ FLN[wix_ 12 + 2]? = some (.eq (.field (wT_ 12) "WillHouse$Word" "letters" "Ljava/lang/String;") (tm_ 12)) ∧ FLN[257 + 12]? = some (.eq (.elem (.static "WillHouse" "WORDS" "[LWillHouse$Word;") (.int (Int32.ofNat 12))) (wT_ 12))) := by decide +kernel
set_option maxRecDepth 100000 in
theorem wdd_13 : (FLN[wix_ 13]? = some (.exactly (wT_ 13) "WillHouse$Word") ∧ FLN[wix_ 13 + 1]? = some (.eq (.field (wT_ 13) "java/lang/Enum" "ordinal" "I") (.int (Int32.ofInt ((13 : Nat) : Int)))) ∧ FLN[wix_ 13 + 2]? = some (.eq (.field (wT_ 13) "WillHouse$Word" "letters" "Ljava/lang/String;") (tm_ 13)) ∧ FLN[257 + 13]? = some (.eq (.elem (.static "WillHouse" "WORDS" "[LWillHouse$Word;") (.int (Int32.ofNat 13))) (wT_ 13))) := by decide +kernel
set_option maxRecDepth 100000 in
theorem wdd_14 : (FLN[wix_ 14]? = some (.exactly (wT_ 14) "WillHouse$Word") ∧ FLN[wix_ 14 + 1]? = some (.eq (.field (wT_ 14) "java/lang/Enum" "ordinal" "I") (.int (Int32.ofInt ((14 : Nat) : Int)))) ∧ FLN[wix_ 14 + 2]? = some (.eq (.field (wT_ 14) "WillHouse$Word" "letters" "Ljava/lang/String;") (tm_ 14)) ∧ FLN[257 + 14]? = some (.eq (.elem (.static "WillHouse" "WORDS" "[LWillHouse$Word;") (.int (Int32.ofNat 14))) (wT_ 14))) := by decide +kernel
set_option maxRecDepth 100000 in
theorem wdd_15 : (FLN[wix_ 15]? = some (.exactly (wT_ 15) "WillHouse$Word") ∧ FLN[wix_ 15 + 1]? = some (.eq (.field (wT_ 15) "java/lang/Enum" "ordinal" "I") (.int (Int32.ofInt ((15 : Nat) : Int)))) ∧ FLN[wix_ 15 + 2]? = some (.eq (.field (wT_ 15) "WillHouse$Word" "letters" "Ljava/lang/String;") (tm_ 15)) ∧ FLN[257 + 15]? = some (.eq (.elem (.static "WillHouse" "WORDS" "[LWillHouse$Word;") (.int (Int32.ofNat 15))) (wT_ 15))) := by decide +kernel
set_option maxRecDepth 100000 in
theorem wdd_16 : (FLN[wix_ 16]? = some (.exactly (wT_ 16) "WillHouse$Word") ∧ FLN[wix_ 16 + 1]? = some (.eq (.field (wT_ 16) "java/lang/Enum" "ordinal" "I") (.int (Int32.ofInt ((16 : Nat) : Int)))) ∧ FLN[wix_ 16 + 2]? = some (.eq (.field (wT_ 16) "WillHouse$Word" "letters" "Ljava/lang/String;") (tm_ 16)) ∧ FLN[257 + 16]? = some (.eq (.elem (.static "WillHouse" "WORDS" "[LWillHouse$Word;") (.int (Int32.ofNat 16))) (wT_ 16))) := by decide +kernel
set_option maxRecDepth 100000 in
theorem wdd_17 : (FLN[wix_ 17]? = some (.exactly (wT_ 17) "WillHouse$Word") ∧ FLN[wix_ 17 + 1]? = some (.eq (.field (wT_ 17) "java/lang/Enum" "ordinal" "I") (.int (Int32.ofInt ((17 : Nat) : Int)))) ∧ FLN[wix_ 17 + 2]? = some (.eq (.field (wT_ 17) "WillHouse$Word" "letters" "Ljava/lang/String;") (tm_ 17)) ∧ FLN[257 + 17]? = some (.eq (.elem (.static "WillHouse" "WORDS" "[LWillHouse$Word;") (.int (Int32.ofNat 17))) (wT_ 17))) := by decide +kernel
set_option maxRecDepth 100000 in
theorem wdd_18 : (FLN[wix_ 18]? = some (.exactly (wT_ 18) "WillHouse$Word") ∧ FLN[wix_ 18 + 1]? = some (.eq (.field (wT_ 18) "java/lang/Enum" "ordinal" "I") (.int (Int32.ofInt ((18 : Nat) : Int)))) ∧ FLN[wix_ 18 + 2]? = some (.eq (.field (wT_ 18) "WillHouse$Word" "letters" "Ljava/lang/String;") (tm_ 18)) ∧ FLN[257 + 18]? = some (.eq (.elem (.static "WillHouse" "WORDS" "[LWillHouse$Word;") (.int (Int32.ofNat 18))) (wT_ 18))) := by decide +kernel
set_option maxRecDepth 100000 in
theorem wdd_19 : (FLN[wix_ 19]? = some (.exactly (wT_ 19) "WillHouse$Word") ∧ FLN[wix_ 19 + 1]? = some (.eq (.field (wT_ 19) "java/lang/Enum" "ordinal" "I") (.int (Int32.ofInt ((19 : Nat) : Int)))) ∧ FLN[wix_ 19 + 2]? = some (.eq (.field (wT_ 19) "WillHouse$Word" "letters" "Ljava/lang/String;") (tm_ 19)) ∧ FLN[257 + 19]? = some (.eq (.elem (.static "WillHouse" "WORDS" "[LWillHouse$Word;") (.int (Int32.ofNat 19))) (wT_ 19))) := by decide +kernel
set_option maxRecDepth 100000 in
theorem wdd_20 : (FLN[wix_ 20]? = some (.exactly (wT_ 20) "WillHouse$Word") ∧ FLN[wix_ 20 + 1]? = some (.eq (.field (wT_ 20) "java/lang/Enum" "ordinal" "I") (.int (Int32.ofInt ((20 : Nat) : Int)))) ∧ FLN[wix_ 20 + 2]? = some (.eq (.field (wT_ 20) "WillHouse$Word" "letters" "Ljava/lang/String;") (tm_ 20)) ∧ FLN[257 + 20]? = some (.eq (.elem (.static "WillHouse" "WORDS" "[LWillHouse$Word;") (.int (Int32.ofNat 20))) (wT_ 20))) := by decide +kernel
set_option maxRecDepth 100000 in
theorem wdd_21 : (FLN[wix_ 21]? = some (.exactly (wT_ 21) "WillHouse$Word") ∧ FLN[wix_ 21 + 1]? = some (.eq (.field (wT_ 21) "java/lang/Enum" "ordinal" "I") (.int (Int32.ofInt ((21 : Nat) : Int)))) ∧ FLN[wix_ 21 + 2]? = some (.eq (.field (wT_ 21) "WillHouse$Word" "letters" "Ljava/lang/String;") (tm_ 21)) ∧ FLN[257 + 21]? = some (.eq (.elem (.static "WillHouse" "WORDS" "[LWillHouse$Word;") (.int (Int32.ofNat 21))) (wT_ 21))) := by decide +kernel
set_option maxRecDepth 100000 in
theorem wdd_22 : (FLN[wix_ 22]? = some (.exactly (wT_ 22) "WillHouse$Word") ∧ FLN[wix_ 22 + 1]? = some (.eq (.field (wT_ 22) "java/lang/Enum" "ordinal" "I") (.int (Int32.ofInt ((22 : Nat) : Int)))) ∧ FLN[wix_ 22 + 2]? = some (.eq (.field (wT_ 22) "WillHouse$Word" "letters" "Ljava/lang/String;") (tm_ 22)) ∧ FLN[257 + 22]? = some (.eq (.elem (.static "WillHouse" "WORDS" "[LWillHouse$Word;") (.int (Int32.ofNat 22))) (wT_ 22))) := by decide +kernel
set_option maxRecDepth 100000 in
theorem wdd_23 : (FLN[wix_ 23]? = some (.exactly (wT_ 23) "WillHouse$Word") ∧ FLN[wix_ 23 + 1]? = some (.eq (.field (wT_ 23) "java/lang/Enum" "ordinal" "I") (.int (Int32.ofInt ((23 : Nat) : Int)))) ∧ FLN[wix_ 23 + 2]? = some (.eq (.field (wT_ 23) "WillHouse$Word" "letters" "Ljava/lang/String;") (tm_ 23)) ∧ FLN[257 + 23]? = some (.eq (.elem (.static "WillHouse" "WORDS" "[LWillHouse$Word;") (.int (Int32.ofNat 23))) (wT_ 23))) := by decide +kernel
theorem tx_w : ∀ j : Nat, j < 44 → (FLN[te_ j]? = some (.exactly (tm_ j) sV_) ∧ FLN[te_ j + 1]? = some (.eq (.field (tm_ j) sV_ "coder" "B") (.int 0)) ∧ FLN[te_ j + 2]? = some (.arrayOf (.field (tm_ j) sV_ "value" "[B") .byte) ∧ FLN[te_ j + 3]? = some (.eq (.length (.field (tm_ j) sV_ "value" "[B")) (.int (Int32.ofNat (txb_ j).length))) ∧ (txb_ j).length < 2 ^ 31 ∧ ∀ i : Nat, i < (txb_ j).length → FLN[te_ j + 4 + i]? = some (.eq (.elem (.field (tm_ j) sV_ "value" "[B") (.int (Int32.ofNat i))) (.int (Int32.ofInt ((txb_ j).getD i 0))))) := fun j hj => match j, hj with
  | 0, _ => tx_0
  | 1, _ => tx_1
  | 2, _ => tx_2
  | 3, _ => tx_3
  | 4, _ => tx_4
  | 5, _ => tx_5
  | 6, _ => tx_6
  | 7, _ => tx_7
  | 8, _ => tx_8
  | 9, _ => tx_9
  | 10, _ => tx_10
  | 11, _ => tx_11
  | 12, _ => tx_12
  | 13, _ => tx_13
  | 14, _ => tx_14
  | 15, _ => tx_15
  | 16, _ => tx_16
  | 17, _ => tx_17
  | 18, _ => tx_18
  | 19, _ => tx_19
  | 20, _ => tx_20
  | 21, _ => tx_21
  | 22, _ => tx_22
  | 23, _ => tx_23
  | 24, _ => tx_24
  | 25, _ => tx_25
  | 26, _ => tx_26
  | 27, _ => tx_27
  | 28, _ => tx_28
  | 29, _ => tx_29
  | 30, _ => tx_30
  | 31, _ => tx_31
  | 32, _ => tx_32
  | 33, _ => tx_33
  | 34, _ => tx_34
  | 35, _ => tx_35
  | 36, _ => tx_36
  | 37, _ => tx_37
  | 38, _ => tx_38
  | 39, _ => tx_39
  | 40, _ => tx_40
  | 41, _ => tx_41
  | 42, _ => tx_42
  | 43, _ => tx_43
  | n + 44, h => absurd h (by omega)
theorem wd_w : ∀ j : Nat, j < 24 → (FLN[wix_ j]? = some (.exactly (wT_ j) "WillHouse$Word") ∧ FLN[wix_ j + 1]? = some (.eq (.field (wT_ j) "java/lang/Enum" "ordinal" "I") (.int (Int32.ofInt ((j : Nat) : Int)))) ∧ FLN[wix_ j + 2]? = some (.eq (.field (wT_ j) "WillHouse$Word" "letters" "Ljava/lang/String;") (tm_ j)) ∧ FLN[257 + j]? = some (.eq (.elem (.static "WillHouse" "WORDS" "[LWillHouse$Word;") (.int (Int32.ofNat j))) (wT_ j))) := fun j hj => match j, hj with
  | 0, _ => wdd_0
  | 1, _ => wdd_1
  | 2, _ => wdd_2
  | 3, _ => wdd_3
  | 4, _ => wdd_4
  | 5, _ => wdd_5
  | 6, _ => wdd_6
  | 7, _ => wdd_7
  | 8, _ => wdd_8
  | 9, _ => wdd_9
  | 10, _ => wdd_10
  | 11, _ => wdd_11
  | 12, _ => wdd_12
  | 13, _ => wdd_13
  | 14, _ => wdd_14
  | 15, _ => wdd_15
  | 16, _ => wdd_16
  | 17, _ => wdd_17
  | 18, _ => wdd_18
  | 19, _ => wdd_19
  | 20, _ => wdd_20
  | 21, _ => wdd_21
  | 22, _ => wdd_22
  | 23, _ => wdd_23
  | n + 24, h => absurd h (by omega)
abbrev tSW_ : Term := .static "WillHouse$1" "$SwitchMap$WillHouse$Word" "[I"
abbrev tWS_ : Term := .static "WillHouse" "WORDS" "[LWillHouse$Word;"
abbrev tMT_ : Term := .static "WillHouse" "MOST_TOLD" "[I"
abbrev tDO_ : Term := .static "java/lang/Integer" "DigitOnes" "[B"
abbrev tDT_ : Term := .static "java/lang/Integer" "DigitTens" "[B"
set_option maxRecDepth 100000 in
theorem ar_1 : (FLN[226]? = some (.arrayOf tSW_ .int) ∧ FLN[227]? = some (.eq (.length tSW_) (.int (Int32.ofNat 24))) ∧ ∀ i : Nat, i < 24 → FLN[228 + i]? = some (.eq (.elem tSW_ (.int (Int32.ofNat i))) (.int (Int32.ofInt (swm_.getD i 0))))) := by decide +kernel
set_option maxRecDepth 100000 in
theorem ar_2 : (FLN[7]? = some (.arrayOf tMT_ .int) ∧ FLN[8]? = some (.eq (.length tMT_) (.int (Int32.ofNat 5))) ∧ ∀ i : Nat, i < 5 → FLN[9 + i]? = some (.eq (.elem tMT_ (.int (Int32.ofNat i))) (.int (Int32.ofInt (mtd_.getD i 0))))) := by decide +kernel
set_option maxRecDepth 100000 in
theorem ar_3 : (FLN[20]? = some (.arrayOf tDO_ .byte) ∧ FLN[21]? = some (.eq (.length tDO_) (.int (Int32.ofNat 100))) ∧ ∀ i : Nat, i < 100 → FLN[22 + i]? = some (.eq (.elem tDO_ (.int (Int32.ofNat i))) (.int (Int32.ofInt (dgo_ i))))) := by decide +kernel
set_option maxRecDepth 100000 in
theorem ar_4 : (FLN[123]? = some (.arrayOf tDT_ .byte) ∧ FLN[124]? = some (.eq (.length tDT_) (.int (Int32.ofNat 100))) ∧ ∀ i : Nat, i < 100 → FLN[125 + i]? = some (.eq (.elem tDT_ (.int (Int32.ofNat i))) (.int (Int32.ofInt (dgt_ i))))) := by decide +kernel
set_option maxRecDepth 100000 in
theorem ar_0 : (FLN[254]? = some (.arrayOf tWS_ (.object "WillHouse$Word")) ∧ FLN[255]? = some (.eq (.length tWS_) (.int (Int32.ofNat 24)))) := by decide +kernel
theorem ar_w : (FLN[226]? = some (.arrayOf tSW_ .int) ∧ FLN[227]? = some (.eq (.length tSW_) (.int (Int32.ofNat 24))) ∧ ∀ i : Nat, i < 24 → FLN[228 + i]? = some (.eq (.elem tSW_ (.int (Int32.ofNat i))) (.int (Int32.ofInt (swm_.getD i 0))))) ∧ (FLN[254]? = some (.arrayOf tWS_ (.object "WillHouse$Word")) ∧ FLN[255]? = some (.eq (.length tWS_) (.int (Int32.ofNat 24)))) ∧ (FLN[7]? = some (.arrayOf tMT_ .int) ∧ FLN[8]? = some (.eq (.length tMT_) (.int (Int32.ofNat 5))) ∧ ∀ i : Nat, i < 5 → FLN[9 + i]? = some (.eq (.elem tMT_ (.int (Int32.ofNat i))) (.int (Int32.ofInt (mtd_.getD i 0))))) ∧ (FLN[20]? = some (.arrayOf tDO_ .byte) ∧ FLN[21]? = some (.eq (.length tDO_) (.int (Int32.ofNat 100))) ∧ ∀ i : Nat, i < 100 → FLN[22 + i]? = some (.eq (.elem tDO_ (.int (Int32.ofNat i))) (.int (Int32.ofInt (dgo_ i))))) ∧ (FLN[123]? = some (.arrayOf tDT_ .byte) ∧ FLN[124]? = some (.eq (.length tDT_) (.int (Int32.ofNat 100))) ∧ ∀ i : Nat, i < 100 → FLN[125 + i]? = some (.eq (.elem tDT_ (.int (Int32.ofNat i))) (.int (Int32.ofInt (dgt_ i))))) := ⟨ar_1, ar_0, ar_2, ar_3, ar_4⟩
set_option maxRecDepth 100000 in
theorem ms_w : ∀ q ∈ kxs_, Cond.stringRef q.1 q.2.1 q.2.2 ∈ lw_tbl ∧ Cond.exactly (.string q.1 q.2.1) sV_ ∈ FLN := by
  intro q hq
  simp only [kxs_, List.mem_cons, List.not_mem_nil, or_false] at hq
  rcases hq with rfl | rfl | rfl | rfl | rfl | rfl | rfl | rfl
  · exact ⟨(List.mem_of_getElem? (i := 125) (by decide +kernel)), (fl_mem 629 (by decide +kernel))⟩
  · exact ⟨(List.mem_of_getElem? (i := 163) (by decide +kernel)), (fl_mem 655 (by decide +kernel))⟩
  · exact ⟨(List.mem_of_getElem? (i := 337) (by decide +kernel)), (fl_mem 672 (by decide +kernel))⟩
  · exact ⟨(List.mem_of_getElem? (i := 346) (by decide +kernel)), (fl_mem 704 (by decide +kernel))⟩
  · exact ⟨(List.mem_of_getElem? (i := 356) (by decide +kernel)), (fl_mem 721 (by decide +kernel))⟩
  · exact ⟨(List.mem_of_getElem? (i := 382) (by decide +kernel)), (fl_mem 751 (by decide +kernel))⟩
  · exact ⟨(List.mem_of_getElem? (i := 397) (by decide +kernel)), (fl_mem 769 (by decide +kernel))⟩
  · exact ⟨(List.mem_of_getElem? (i := 1054) (by decide +kernel)), (fl_mem 992 (by decide +kernel))⟩
set_option maxRecDepth 100000 in
theorem mo_w : ∀ j : Nat, j < 20 → Cond.stringRef (tmo_ j).1 (tmo_ j).2.1 (tmo_ j).2.2 ∈ lw_tbl ∧ tm_ (24 + j) = .string (tmo_ j).1 (tmo_ j).2.1 := fun j hj => match j, hj with
  | 0, _ => ⟨(List.mem_of_getElem? (i := 751) (by decide +kernel)), rfl⟩
  | 1, _ => ⟨(List.mem_of_getElem? (i := 888) (by decide +kernel)), rfl⟩
  | 2, _ => ⟨(List.mem_of_getElem? (i := 889) (by decide +kernel)), rfl⟩
  | 3, _ => ⟨(List.mem_of_getElem? (i := 890) (by decide +kernel)), rfl⟩
  | 4, _ => ⟨(List.mem_of_getElem? (i := 891) (by decide +kernel)), rfl⟩
  | 5, _ => ⟨(List.mem_of_getElem? (i := 892) (by decide +kernel)), rfl⟩
  | 6, _ => ⟨(List.mem_of_getElem? (i := 893) (by decide +kernel)), rfl⟩
  | 7, _ => ⟨(List.mem_of_getElem? (i := 919) (by decide +kernel)), rfl⟩
  | 8, _ => ⟨(List.mem_of_getElem? (i := 920) (by decide +kernel)), rfl⟩
  | 9, _ => ⟨(List.mem_of_getElem? (i := 921) (by decide +kernel)), rfl⟩
  | 10, _ => ⟨(List.mem_of_getElem? (i := 922) (by decide +kernel)), rfl⟩
  | 11, _ => ⟨(List.mem_of_getElem? (i := 923) (by decide +kernel)), rfl⟩
  | 12, _ => ⟨(List.mem_of_getElem? (i := 924) (by decide +kernel)), rfl⟩
  | 13, _ => ⟨(List.mem_of_getElem? (i := 925) (by decide +kernel)), rfl⟩
  | 14, _ => ⟨(List.mem_of_getElem? (i := 926) (by decide +kernel)), rfl⟩
  | 15, _ => ⟨(List.mem_of_getElem? (i := 927) (by decide +kernel)), rfl⟩
  | 16, _ => ⟨(List.mem_of_getElem? (i := 928) (by decide +kernel)), rfl⟩
  | 17, _ => ⟨(List.mem_of_getElem? (i := 929) (by decide +kernel)), rfl⟩
  | 18, _ => ⟨(List.mem_of_getElem? (i := 930) (by decide +kernel)), rfl⟩
  | 19, _ => ⟨(List.mem_of_getElem? (i := 931) (by decide +kernel)), rfl⟩
  | n + 20, h => absurd h (by omega)
theorem nc_w : ∀ q ∈ kxn_, Cond.not (.castable q.1 q.2) ∈ FLN := fun q hq => absurd hq List.not_mem_nil
set_option maxRecDepth 100000 in
theorem ls_w : ∀ q ∈ kst_, Cond.laysStatic q.1 q.2.1 q.2.2.1 ∈ lw_tbl ∧ Cond.initialized q.1 ∈ lw_tbl := by
  intro q hq
  simp only [kst_, List.mem_cons, List.not_mem_nil, or_false] at hq
  rcases hq with rfl | rfl | rfl | rfl | rfl | rfl | rfl | rfl | rfl | rfl | rfl | rfl
  · exact ⟨(List.mem_of_getElem? (i := 1124) (by decide +kernel)), (List.mem_of_getElem? (i := 75) (by decide +kernel))⟩
  · exact ⟨(List.mem_of_getElem? (i := 1138) (by decide +kernel)), (List.mem_of_getElem? (i := 75) (by decide +kernel))⟩
  · exact ⟨(List.mem_of_getElem? (i := 1144) (by decide +kernel)), (List.mem_of_getElem? (i := 75) (by decide +kernel))⟩
  · exact ⟨(List.mem_of_getElem? (i := 1155) (by decide +kernel)), (List.mem_of_getElem? (i := 75) (by decide +kernel))⟩
  · exact ⟨(List.mem_of_getElem? (i := 1171) (by decide +kernel)), (List.mem_of_getElem? (i := 75) (by decide +kernel))⟩
  · exact ⟨(List.mem_of_getElem? (i := 1190) (by decide +kernel)), (List.mem_of_getElem? (i := 75) (by decide +kernel))⟩
  · exact ⟨(List.mem_of_getElem? (i := 1071) (by decide +kernel)), (List.mem_of_getElem? (i := 75) (by decide +kernel))⟩
  · exact ⟨(List.mem_of_getElem? (i := 1063) (by decide +kernel)), (List.mem_of_getElem? (i := 49) (by decide +kernel))⟩
  · exact ⟨(List.mem_of_getElem? (i := 1057) (by decide +kernel)), (List.mem_of_getElem? (i := 73) (by decide +kernel))⟩
  · exact ⟨(List.mem_of_getElem? (i := 153) (by decide +kernel)), (List.mem_of_getElem? (i := 49) (by decide +kernel))⟩
  · exact ⟨(List.mem_of_getElem? (i := 908) (by decide +kernel)), (List.mem_of_getElem? (i := 68) (by decide +kernel))⟩
  · exact ⟨(List.mem_of_getElem? (i := 910) (by decide +kernel)), (List.mem_of_getElem? (i := 68) (by decide +kernel))⟩
