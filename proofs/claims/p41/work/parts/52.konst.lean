/-! constants read: texts, words, rows of numbers; calls of their methods -/
theorem i2c_eq (x : Int) : ((Int32.ofInt x).toUInt32 % 65536).toInt32 = Int32.ofInt (x % 65536) := by
  apply Int32.toBitVec_inj.mp
  show (Int32.ofInt x).toBitVec % 65536#32 = (Int32.ofInt (x % 65536)).toBitVec
  apply BitVec.eq_of_toNat_eq
  rw [BitVec.toNat_umod]
  show (BitVec.ofInt 32 x).toNat % 65536 = (BitVec.ofInt 32 (x % 65536)).toNat
  rw [BitVec.toNat_ofInt, BitVec.toNat_ofInt]
  omega
section RULES9
variable {E : EP} {M M' : PM} {d d' bc bs bc' bs' : Nat} {Q : PQ} {pc idx n : Nat} {L st stk as : List PV} {N : Nat} {h : PH} {y : MethodName}
theorem s_getsr {z : Int} {C nm ds ref : String} (hd : decode M.2.1 pc = .ok (.getstatic idx, 3)) (hz : (C, nm, ds, z) ∈ kst_) (hw : Cond.fieldLink M.1 idx C nm ds ∈ TBL) (k : SE_ E M d bc bs Q (pc + 3) L ((2, z) :: st) N h) : SE_ E M d bc bs Q pc L st N h := by
  intro l s0 D dA ad p e R s m args below meth c H locs cells slots mc ms ls hG hC hW hL
  have K := kx_at hG hC
  exact va_gets (A := own_ s0) (C := C) (n := nm) (d := ds) (v := .ref (ad.2 z)) (ref := C) (cx_ex hC) (cx_cb hC) (K.2.2.2.1 _ hz) hW.2 (cx_own hC) (cx_ts hC _ hw) (fun _ q => q) hd (k l s0 D dA ad p e R s m args below meth c H locs cells slots mc ms ls hG hC hW hL)
theorem s_getsrN {z : Int} {C nm ds host : String} (hd : decode M.2.1 pc = .ok (.getstatic idx, 3)) (hz : (C, nm, ds, z) ∈ kst_) (hw : Cond.fieldLinkNest M.1 idx C nm ds host ∈ kxw_) (k : SE_ E M d bc bs Q (pc + 3) L ((2, z) :: st) N h) : SE_ E M d bc bs Q pc L st N h := by
  intro l s0 D dA ad p e R s m args below meth c H locs cells slots mc ms ls hG hC hW hL
  have K := kx_at hG hC
  exact va_getsN (A := own_ s0) (C := C) (n := nm) (d := ds) (v := .ref (ad.2 z)) (ref := C) (cx_ex hC) (cx_cb hC) (K.2.2.2.1 _ hz) hW.2 (cx_own hC) (kxw_use hw (K.2.2.2.2.2.2.2.2.2.2.2.2.2.1 _ hw)) (fun _ q => q) hd (k l s0 D dA ad p e R s m args below meth c H locs cells slots mc ms ls hG hC hW hL)
theorem s_getsC (hd : decode M.2.1 pc = .ok (.getstatic idx, 3)) (hw : Cond.fieldLink M.1 idx "java/lang/String" "COMPACT_STRINGS" "Z" ∈ TBL) (k : SE_ E M d bc bs Q (pc + 3) L ((0, 1) :: st) N h) : SE_ E M d bc bs Q pc L st N h := by
  intro l s0 D dA ad p e R s m args below meth c H locs cells slots mc ms ls hG hC hW hL
  have K := kx_at hG hC
  exact va_gets (A := own_ s0) (C := "java/lang/String") (n := "COMPACT_STRINGS") (d := "Z") (v := .int 1) (ref := "java/lang/String") (cx_ex hC) (cx_cb hC) K.2.2.2.2.2.2.2.2.2.1 hW.2 (cx_own hC) (cx_ts hC _ hw) (fun _ q => q) hd (k l s0 D dA ad p e R s m args below meth c H locs cells slots mc ms ls hG hC hW hL)
theorem s_getsF (hd : decode M.2.1 pc = .ok (.getstatic idx, 3)) (hw : Cond.fieldLink M.1 idx "jdk/internal/util/Preconditions" "SIOOBE_FORMATTER" "Ljava/util/function/BiFunction;" ∈ TBL) (k : ∀ v : PV, v = (4, 0) ∨ v = (2, 1305) → SE_ E M d bc bs Q (pc + 3) L (v :: st) N h) : SE_ E M d bc bs Q pc L st N h := by
  intro l s0 D dA ad p e R s m args below meth c H locs cells slots mc ms ls hG hC hW hL
  have K := kx_at hG hC
  rcases K.2.2.2.2.2.2.2.2.2.2.1 with z | z
  · exact va_gets (A := own_ s0) (v := .null) (ref := "jdk/internal/util/Preconditions") (cx_ex hC) (cx_cb hC) z hW.2 (cx_own hC) (cx_ts hC _ hw) (fun _ q => q) hd (k (4, 0) (Or.inl rfl) l s0 D dA ad p e R s m args below meth c H locs cells slots mc ms ls hG hC hW hL)
  · exact va_gets (A := own_ s0) (v := .ref (ad.2 1305)) (ref := "jdk/internal/util/Preconditions") (cx_ex hC) (cx_cb hC) z hW.2 (cx_own hC) (cx_ts hC _ hw) (fun _ q => q) hd (k (2, 1305) (Or.inr rfl) l s0 D dA ad p e R s m args below meth c H locs cells slots mc ms ls hG hC hW hL)
theorem s_ldcS {j : Nat} (hd : decode M.2.1 pc = .ok (.ldc idx, 2)) (hj : j < 20) (ht : (tmo_ j).1 = M.1) (hi : (tmo_ j).2.1 = idx) {z : Int} (hz : (1024 + j : Int) = z) (k : SE_ E M d bc bs Q (pc + 2) L ((2, z) :: st) N h) : SE_ E M d bc bs Q pc L st N h := by
  subst hz
  intro l s0 D dA ad p e R s m args below meth c H locs cells slots mc ms ls hG hC hW hL
  have K := (kx_at hG hC).1 j hj
  rw [ht, hi] at K
  exact va_ldcS (cx_ex hC) (cx_cb hC) (cx_own hC) K hd (k l s0 D dA ad p e R s m args below meth c H locs cells slots mc ms ls hG hC hW hL)
theorem s_ldcSW {j : Nat} (hd : decode M.2.1 pc = .ok (.ldc_w idx, 3)) (hj : j < 20) (ht : (tmo_ j).1 = M.1) (hi : (tmo_ j).2.1 = idx) {z : Int} (hz : (1024 + j : Int) = z) (k : SE_ E M d bc bs Q (pc + 3) L ((2, z) :: st) N h) : SE_ E M d bc bs Q pc L st N h := by
  subst hz
  intro l s0 D dA ad p e R s m args below meth c H locs cells slots mc ms ls hG hC hW hL
  have K := (kx_at hG hC).1 j hj
  rw [ht, hi] at K
  intro T hT X
  obtain ⟨t, a1, b1⟩ := k l s0 D dA ad p e R s m args below meth c H locs cells slots mc ms ls hG hC hW hL T hT X
  exact ⟨t, X.ldcStringW (cx_ex hC) (cx_own hC) K.1 K.2 (g := F0 m pc ls (st.map (rv_ ad))) rfl (by rw [cx_cb hC]; exact hd) t a1, b1⟩
/-- a field of a constant object -/
theorem s_kfld {v : PV} {o nm ds ref : String} {z : Int} (hd : decode M.2.1 pc = .ok (.getfield idx, 3)) (hK : ∀ (A : Nat → Prop) (U : State) (H : Heap) (ad : AD), Kx_ A U H ad.2 → va_OF o nm ds (rv_ ad v) (ad.2 z) A U H) (hw : Cond.fieldLink M.1 idx o nm ds ∈ TBL) (k : SE_ E M d bc bs Q (pc + 3) L (v :: st) N h) : SE_ E M d bc bs Q pc L ((2, z) :: st) N h := by
  intro l s0 D dA ad p e R s m args below meth c H locs cells slots mc ms ls hG hC hW hL
  have K := hK _ _ _ ad (kx_at hG hC)
  exact va_getX (N := 1) (i := 0) (A := own_ s0) (v := fun _ => rv_ ad v) (ad := fun _ => ad.2 z) (ref := o) (cx_ex hC) (cx_cb hC) (fun _ _ => K) (by decide) hW.2 (cx_own hC) (cx_ts hC _ hw) (fun _ q => q) hd (k l s0 D dA ad p e R s m args below meth c H locs cells slots mc ms ls hG hC hW hL)
/-- constant arrays -/
theorem s_kiaload {z i : Int} {k : Nat} {f : Nat → Int} (hd : decode M.2.1 pc = .ok (.iaload, 1)) (hK : ∀ (A : Nat → Prop) (U : State) (H : Heap) (ad : AD), Kx_ A U H ad.2 → va_T .int (ad.2 z) k (fun i => .int (Int32.ofInt (f i))) A U H) (hk : k ≤ 1000) (i0 : 0 ≤ i) (i1 : i < k) {v : Int} (hv : f i.toNat = v) (kk : SE_ E M d bc bs Q (pc + 1) L ((0, v) :: st) N h) : SE_ E M d bc bs Q pc L ((0, i) :: (2, z) :: st) N h := by
  subst hv
  intro l s0 D dA ad p e R s m args below meth c H locs cells slots mc ms ls hG hC hW hL
  exact va_ti (A := own_ s0) (v := .int (Int32.ofInt (f i.toNat))) (cx_ex hC) (cx_cb hC) (hK _ _ _ ad (kx_at hG hC)) hW.2 (pI_in i0 i1 (by omega)) (by rw [pI_cl i0 (by omega)]) hd (kk l s0 D dA ad p e R s m args below meth c H locs cells slots mc ms ls hG hC hW hL)
theorem s_kbaload {z i : Int} {k : Nat} {f : Nat → Int} (hd : decode M.2.1 pc = .ok (.baload, 1)) (hK : ∀ (A : Nat → Prop) (U : State) (H : Heap) (ad : AD), Kx_ A U H ad.2 → va_T .byte (ad.2 z) k (fun i => .int (Int32.ofInt (f i))) A U H) (hk : k ≤ 1000) (i0 : 0 ≤ i) (i1 : i < k) {v : Int} (hv : f i.toNat = v) (kk : SE_ E M d bc bs Q (pc + 1) L ((0, v) :: st) N h) : SE_ E M d bc bs Q pc L ((0, i) :: (2, z) :: st) N h := by
  subst hv
  intro l s0 D dA ad p e R s m args below meth c H locs cells slots mc ms ls hG hC hW hL
  exact va_tb (A := own_ s0) (v := .int (Int32.ofInt (f i.toNat))) (cx_ex hC) (cx_cb hC) (hK _ _ _ ad (kx_at hG hC)) hW.2 (pI_in i0 i1 (by omega)) (by rw [pI_cl i0 (by omega)]) hd (kk l s0 D dA ad p e R s m args below meth c H locs cells slots mc ms ls hG hC hW hL)
/-- all words: the i-th -/
theorem s_kwords {i z : Int} (hd : decode M.2.1 pc = .ok (.aaload, 1)) (i0 : 0 ≤ i) (i1 : i < 24) (hz : 1200 + i = z) (kk : SE_ E M d bc bs Q (pc + 1) L ((2, z) :: st) N h) : SE_ E M d bc bs Q pc L ((0, i) :: (2, 1300) :: st) N h := by
  subst hz
  intro l s0 D dA ad p e R s m args below meth c H locs cells slots mc ms ls hG hC hW hL
  have K := (kx_at hG hC).2.2.2.2.1
  refine vb_tq (A := own_ s0) (cx_ex hC) (cx_cb hC) K hW.2 (pI_in i0 (show i < (24 : Nat) by omega) (by omega)) (v := .ref (ad.2 (1200 + i))) ?_ hd (kk l s0 D dA ad p e R s m args below meth c H locs cells slots mc ms ls hG hC hW hL)
  rw [pI_cl i0 (by omega), toN_ i0]
theorem s_klen {z v : Int} {k : Nat} {ty : FieldType} {f : AD → Nat → Value} (hd : decode M.2.1 pc = .ok (.arraylength, 1)) (hK : ∀ (A : Nat → Prop) (U : State) (H : Heap) (ad : AD), Kx_ A U H ad.2 → va_T ty (ad.2 z) k (f ad) A U H) (hv : (k : Int) = v) (kk : SE_ E M d bc bs Q (pc + 1) L ((0, v) :: st) N h) : SE_ E M d bc bs Q pc L ((2, z) :: st) N h := by
  subst hv
  intro l s0 D dA ad p e R s m args below meth c H locs cells slots mc ms ls hG hC hW hL
  exact va_tlen (A := own_ s0) (cx_ex hC) (cx_cb hC) (hK _ _ _ ad (kx_at hG hC)) hW.2 (v := Int32.ofInt (k : Int)) rfl hd (kk l s0 D dA ad p e R s m args below meth c H locs cells slots mc ms ls hG hC hW hL)
/-- a method of a constant object is called -/
theorem e_callK {a : Int} {cls : String} (hE : nh_ E) (hK : ∀ (A : Nat → Prop) (U : State) (H : Heap) (a2 : Int → Nat), Kx_ A U H a2 → va_O cls (a2 a) A U H) (hd : decode M.2.1 pc = .ok (.invokevirtual idx, 3)) (vf : VF_ M.1 idx y M' n) (hdd : d' + 1 ≤ d ∧ 8 + (M'.2.2.1 + 11) + 37 * d' ≤ 37 * d) (hb : bc' ≤ bc ∧ bs' ≤ bs) (hn : as.length = n) (hst : stk = as.reverse ++ (2, a) :: st) (hcat : pcat_ st ≤ 8) (hy : cls = y.cls)
    (C : Cl_ y M' d' bc' bs' ((2, a) :: as) N h (fun r N' h' => SE_ E M d (bc - bc') (bs - bs') Q (pc + 3) L (r.toList ++ st) N' h', Q.2)) (h5 : nk5_ L = true := by rfl) (h6 : nk5_ st = true := by rfl) : SE_ E M d bc bs Q pc L stk N h := by
  intro l s0 D dA ad p e R s m args below meth c H locs cells slots mc ms ls hG hC hW hL
  have K := hK _ _ _ _ (kx_at hG hC)
  obtain ⟨cell, k1, k2, k3, k4⟩ := K
  have hlt : ad.2 a < s.heap.size := (Array.getElem?_eq_some_iff.mp k1).1
  have hr := vx_runV (As := as.map (rv_ ad)) (rest := st.map (rv_ ad)) (b := ad.2 a) (C := y.cls) (g := F0 m pc ls (stk.map (rv_ ad))) (H := H) (locs := locs) (below := below) (meth := meth) (cells := cells) (slots := slots) (e := e) ⟨cx_ex hC, cx_cb hC, cx_ml hC, cx_own hC, cx_ts hC⟩ (C l s0 D dA ad hG) ⟨cf_cb hC vf.1 vf.2.1 hdd, cx_ts hC _ vf.2.2.1, cx_ts hC _ vf.2.2.2⟩
    ⟨pc_bl, ⟨cell, by rw [hW.2.2.1 _ hlt k4]; exact k1, k2, by rw [← hy]; exact k3⟩, fun U hU hW' => ⟨rfl, cx_in hC hW', by rw [hU]; exact hW.1⟩⟩ rfl (by rw [List.length_map]; exact hn) hL.1 (by subst hst; simp [rv_]) (lv_room (by rw [pcat_eq]; exact hcat)) hd (cx_f hC hb)
  exact s_back hE hr hG hC hW.2 hL hb h5 h6 (fun _ _ _ z => z) (fun _ _ _ z => z)
/-- .. that it inherits -/
def UF_ (own : String) (idx : Nat) (C owner : String) (x y : MethodName) (M' : PM) (n : Nat) : Prop := CF_ y M' n ∧ Cond.methodLink own idx x ∈ TBL ∧ Cond.sameMethod x.cls owner x.name x.desc ∈ TBL ∧ Cond.selects C x y ∈ TBL ∧ Cond.instanceMethod y ∈ TBL ∧ (y = ⟨owner, x.name, x.desc⟩ ∧ y.desc = x.desc) ∧ (owner ≠ "java/lang/invoke/MethodHandle" ∧ owner ≠ "java/lang/invoke/VarHandle")
theorem i_return {x : Int} {ty : FieldType} (hd : decode M.2.1 pc = .ok (.ireturn, 1)) (hr : M.2.2.2 = some ty) (hn : narrow ty (.int (Int32.ofInt x)) = .int (Int32.ofInt x)) (hq : Q.1 (some (0, x)) N h) : SE_ E M d bc bs Q pc L [(0, x)] N h := by
  intro l s0 D dA ad p e R s m args below meth c H locs cells slots mc ms ls hG hC hW hL
  refine W.widen (k := mc) (n := ms) (by have := (cx_bc hC); omega) (by have := (cx_bs hC); omega) (vx_ret ?_)
  exact W.zret (cx_ex hC) (cx_cb hC) ((cx_rt hC).trans hr) hn (fun t ht _ => Cx_end hW (r := some (0, x)) hq ht) (fun q hq => hW.2.2.2 q hq) hd (cx_lk hC)
theorem s_i2c {x : Int} (hd : decode M.2.1 pc = .ok (.i2c, 1)) (k : SE_ E M d bc bs Q (pc + 1) L ((0, x % 65536) :: st) N h) : SE_ E M d bc bs Q pc L ((0, x) :: st) N h := by
  intro l s0 D dA ad p e R s m args below meth c H locs cells slots mc ms ls hG hC hW hL
  refine lv_i2c (cx_ex hC) (cx_cb hC) hd (v := Int32.ofInt (x % 65536)) ?_ (k l s0 D dA ad p e R s m args below meth c H locs cells slots mc ms ls hG hC hW hL)
  exact i2c_eq x
end RULES9
