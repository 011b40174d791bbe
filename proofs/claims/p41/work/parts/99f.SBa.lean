/-- how many cells stand where they were made to stand -/
abbrev nM : Nat := 199
/-! a machine that owes anything at its end: where the text's array must stay where it is -/
/-- what an end owes -/
abbrev FP : Type := State → va_G → (Nat → ClassId) → AD → (Array Value → State → Outcome → State → Prop)
/-- the text's array is where it was -/
def Q5_ (P : Option PV → Nat → PH → Prop) : FP := fun s0 D dA ad _ st o t =>
  (∃ (r : Option PV) (N : Nat) (h : PH), o = .returned (r.map (rv_ ad)) ∧ P r N h ∧ Wd_ s0 D dA ad N h t.heap) ∧ va_F (own_ s0) st t
def SV_ (F : FP) (E : EP) (M : PM) (d bc bs : Nat) (PX : String → Nat → PH → Prop) (pc : Nat) (L st : List PV) (N : Nat) (h : PH) : Prop :=
  ∀ (l : Launch) (s0 : State) (D : va_G) (dA : Nat → ClassId) (ad : AD) (p : Program) (e : Env) (R : Room) (s : State) (m : MethodId) (args : Array Value) (below : List Frame) (meth : Method) (c : Code) (H : Heap) (locs : List Loc) (cells slots mc ms : Nat) (ls : Array Slot),
    Gl_ l s0 D dA ad.2 → Cx_ E ad.2 M d bc bs s0 p R s m args meth c cells slots mc ms → Wd_ s0 D dA ad N h H ∧ va_S (own_ s0) s.heap H locs → lv_has ls M.2.2.1 (as_ ad 0 L) →
    W p l e R s m args below meth c H locs cells slots (vx_MQ below (F s0 D dA ad) (XC_ s0 D dA ad PX) args s mc ms (own_ s0)) (F0 m pc ls (st.map (rv_ ad)))
/-- a call of y owes F -/
abbrev C5_ (y : MethodName) (M : PM) (d bc bs : Nat) (as : List PV) (N : Nat) (h : PH) (F : FP) (PX : String → Nat → PH → Prop) : Prop :=
  ∀ (l : Launch) (s0 : State) (D : va_G) (dA : Nat → ClassId) (ad : AD), Gl_ l s0 D dA ad.2 →
    vx_Met l y (.code y M.2.1 M.2.2.1 M.2.2.2 :: TBL) { frames := d, locals := 37 * d, cells := bc, slots := bs } (va_Pc (as.map (rv_ ad)) (fun U => s0.WarmedH U.vm ∧ Wd_ s0 D dA ad N h U.heap)) (F s0 D dA ad) (XC_ s0 D dA ad PX) bc bs (own_ s0)
section SVA
variable {E : EP} {M : PM} {d bc bs : Nat} {F : FP} {PX : String → Nat → PH → Prop} {P : Option PV → Nat → PH → Prop} {pc : Nat} {L st : List PV} {N : Nat} {h : PH}
set_option maxHeartbeats 1000000 in
theorem w5_body {w : Cond} {y : MethodName} {as : List PV} (hc : y.cls = M.1) (hn : (en_ as).length ≤ M.2.2.1) (hL : en_ as ++ List.replicate (M.2.2.1 - (en_ as).length) (9, 0) = L) (k : SV_ F E M d bc bs PX 0 L [] N h)
    {l : Launch} {s0 : State} {D : va_G} {dA : Nat → ClassId} {ad : AD} (hG : Gl_ l s0 D dA ad.2) {p : Program} {e : Env} {s : State} {m : MethodId} {args : Array Value} {below : List Frame} {meth : Method} {c : Code} {s₁ : State}
    (B : BodyLoose p l y (headSpec (w :: TBL) { frames := d, locals := 37 * d, cells := bc, slots := bs }) M.2.1 M.2.2.1 M.2.2.2 e s m args below meth c s₁) (hml : c.maxLocals = M.2.2.1) (hE : E s0 ad.2 meth c) (hpc : va_Pc (as.map (rv_ ad)) (fun U => s0.WarmedH U.vm ∧ Wd_ s0 D dA ad N h U.heap) args s) :
    W p l e (headSpec (w :: TBL) { frames := d, locals := 37 * d, cells := bc, slots := bs }).room s m args below meth c s.heap [] 0 0 (vx_MQ below (F s0 D dA ad) (XC_ s0 D dA ad PX) args s bc bs (own_ s0)) (entryFrame m args M.2.2.1) := by
  obtain ⟨rfl, hal, hW⟩ := hpc
  have hts : ∀ w ∈ TBL, w.before ((as.map (rv_ ad)).toArray) s = true := fun w' hw => atoms_spec (ws := w :: TBL) B.pre w' (List.mem_cons_of_mem _ hw)
  have hl := lv_entry (as.map (rv_ ad)) (n := M.2.2.1) (by rw [lg_en]; exact hn)
  rw [lg_entry_eq]
  refine k l s0 D dA ad p e _ s m _ below meth c s.heap [] 0 0 bc bs _ hG ⟨B.exec, B.bytes, hml, ?_, hts, B.returns, B.notSynchronized, hE, Nat.le_refl _, Nat.le_refl _, Nat.le_refl _, Nat.le_refl _, by omega, by omega, hal, hW.2.1, hW.2.2.1⟩ ⟨hW, va_S.rf⟩ ?_
  · rw [← hc]
    exact findClass_of_methodNamed B.named
  · refine ⟨hl.1, hl.2.1, fun q hq => hl.2.2 q ?_⟩
    rw [← hL] at hq
    exact en_mem ad q as 0 (as_app ad q _ _ 0 hq)
theorem w5_enter {y : MethodName} {as : List PV} (hp : plainName y.cls = true) (hc : y.cls = M.1) (hn : (en_ as).length ≤ M.2.2.1) (hL : en_ as ++ List.replicate (M.2.2.1 - (en_ as).length) (9, 0) = L)
    (k : SV_ F E0_ M d bc bs PX 0 L [] N h) : C5_ y M d bc bs as N h F PX := by
  intro l s0 D dA ad hG
  refine vx_ofW hp rfl ?_
  intro p e s m args below meth c s₁ B hml hex hpc
  exact w5_body hc hn hL k hG B hml hex hpc
theorem w5_iconst {n : Int} (hd : decode M.2.1 pc = .ok (.iconst n, 1)) (k : SV_ F E M d bc bs PX (pc + 1) L ((0, n) :: st) N h) : SV_ F E M d bc bs PX pc L st N h :=
  fun l s0 D dA ad p e R s m args below meth c H locs cells slots mc ms ls hG hC hW hL => lv_iconst (cx_ex hC) (cx_cb hC) hd rfl (k l s0 D dA ad p e R s m args below meth c H locs cells slots mc ms ls hG hC hW hL)
theorem w5_ldc {i : Nat} {z : Int} (hd : decode M.2.1 pc = .ok (.ldc i, 2)) (hw : Jvm.Cond.constant M.1 i (Int32.ofInt z) ∈ TBL) (k : SV_ F E M d bc bs PX (pc + 2) L ((0, z) :: st) N h) : SV_ F E M d bc bs PX pc L st N h :=
  fun l s0 D dA ad p e R s m args below meth c H locs cells slots mc ms ls hG hC hW hL => lv_ldc (cx_ex hC) (cx_cb hC) (cx_own hC) ((cx_ts hC) _ hw) hd (k l s0 D dA ad p e R s m args below meth c H locs cells slots mc ms ls hG hC hW hL)
theorem w5_iload_n {i : Fin 4} {x : Int} (hd : decode M.2.1 pc = .ok (.iload_n i, 1)) (hi : L[(i : Nat)]? = some (0, x)) (k : SV_ F E M d bc bs PX (pc + 1) L ((0, x) :: st) N h) : SV_ F E M d bc bs PX pc L st N h :=
  fun l s0 D dA ad p e R s m args below meth c H locs cells slots mc ms ls hG hC hW hL => lv_iload_n (cx_ex hC) (cx_cb hC) hd rfl (as_get hL hi ne09) (k l s0 D dA ad p e R s m args below meth c H locs cells slots mc ms ls hG hC hW hL)
theorem w5_iload {i : Nat} {x : Int} (hd : decode M.2.1 pc = .ok (.iload i, 2)) (hi : L[i]? = some (0, x)) (k : SV_ F E M d bc bs PX (pc + 2) L ((0, x) :: st) N h) : SV_ F E M d bc bs PX pc L st N h :=
  fun l s0 D dA ad p e R s m args below meth c H locs cells slots mc ms ls hG hC hW hL => lv_iload (cx_ex hC) (cx_cb hC) hd (as_get hL hi ne09) (k l s0 D dA ad p e R s m args below meth c H locs cells slots mc ms ls hG hC hW hL)
theorem w5_aload_n {i : Fin 4} {x : Int} (hd : decode M.2.1 pc = .ok (.aload_n i, 1)) (hi : L[(i : Nat)]? = some (2, x)) (k : SV_ F E M d bc bs PX (pc + 1) L ((2, x) :: st) N h) : SV_ F E M d bc bs PX pc L st N h :=
  fun l s0 D dA ad p e R s m args below meth c H locs cells slots mc ms ls hG hC hW hL => lv_aload_n (cx_ex hC) (cx_cb hC) hd rfl (as_get hL hi ne29) (k l s0 D dA ad p e R s m args below meth c H locs cells slots mc ms ls hG hC hW hL)
theorem w5_istore_n {i : Fin 4} {x : Int} {L' : List PV} (hd : decode M.2.1 pc = .ok (.istore_n i, 1)) (hn : (i : Nat) < M.2.2.1) (hb : Nat.beq (L.getD ((i : Nat) - 1) (0, 0)).1 1 = false) (hs : L.set i (0, x) = L') (k : SV_ F E M d bc bs PX (pc + 1) L' st N h) : SV_ F E M d bc bs PX pc L ((0, x) :: st) N h :=
  fun l s0 D dA ad p e R s m args below meth c H locs cells slots mc ms ls hG hC hW hL => lv_istore_n (cx_ex hC) (cx_cb hC) hd rfl hL hn rfl (fun ls' h' => k l s0 D dA ad p e R s m args below meth c H locs cells slots mc ms ls' hG hC hW (hs ▸ as_set (v := (0, x)) ne01 hb h'))
theorem w5_istore {i : Nat} {x : Int} {L' : List PV} (hd : decode M.2.1 pc = .ok (.istore i, 2)) (hn : i < M.2.2.1) (hb : Nat.beq (L.getD (i - 1) (0, 0)).1 1 = false) (hs : L.set i (0, x) = L') (k : SV_ F E M d bc bs PX (pc + 2) L' st N h) : SV_ F E M d bc bs PX pc L ((0, x) :: st) N h :=
  fun l s0 D dA ad p e R s m args below meth c H locs cells slots mc ms ls hG hC hW hL => lv_istore (cx_ex hC) (cx_cb hC) hd hL hn rfl (fun ls' h' => k l s0 D dA ad p e R s m args below meth c H locs cells slots mc ms ls' hG hC hW (hs ▸ as_set (v := (0, x)) ne01 hb h'))
theorem w5_iadd {x y : Int} (hd : decode M.2.1 pc = .ok (.iadd, 1)) (k : SV_ F E M d bc bs PX (pc + 1) L ((0, x + y) :: st) N h) : SV_ F E M d bc bs PX pc L ((0, y) :: (0, x) :: st) N h := by
  intro l s0 D dA ad p e R s m args below meth c H locs cells slots mc ms ls hG hC hW hL
  refine lv_iadd (cx_ex hC) (cx_cb hC) hd ?_
  rw [← Int32.ofInt_add]
  exact k l s0 D dA ad p e R s m args below meth c H locs cells slots mc ms ls hG hC hW hL
theorem w5_isub {x y : Int} (hd : decode M.2.1 pc = .ok (.isub, 1)) (k : SV_ F E M d bc bs PX (pc + 1) L ((0, x - y) :: st) N h) : SV_ F E M d bc bs PX pc L ((0, y) :: (0, x) :: st) N h := by
  intro l s0 D dA ad p e R s m args below meth c H locs cells slots mc ms ls hG hC hW hL
  refine lv_isub (cx_ex hC) (cx_cb hC) hd ?_
  rw [← Int32.ofInt_sub]
  exact k l s0 D dA ad p e R s m args below meth c H locs cells slots mc ms ls hG hC hW hL
theorem w5_goto {off : Int} {tgt : Nat} (hd : decode M.2.1 pc = .ok (.goto off, 3)) (ht : (pc : Int) + off = (tgt : Int)) (k : SV_ F E M d bc bs PX tgt L st N h) : SV_ F E M d bc bs PX pc L st N h :=
  fun l s0 D dA ad p e R s m args below meth c H locs cells slots mc ms ls hG hC hW hL => lv_goto (cx_ex hC) (cx_cb hC) hd ht (k l s0 D dA ad p e R s m args below meth c H locs cells slots mc ms ls hG hC hW hL)
theorem w5_pop {v : PV} (hd : decode M.2.1 pc = .ok (.pop, 1)) (hv : Nat.beq v.1 1 = false) (k : SV_ F E M d bc bs PX (pc + 1) L st N h) : SV_ F E M d bc bs PX pc L (v :: st) N h :=
  fun l s0 D dA ad p e R s m args below meth c H locs cells slots mc ms ls hG hC hW hL => lv_pop (cx_ex hC) (cx_cb hC) hd (by rw [rv_cat, if_neg (fun z => by rw [z] at hv; cases hv)]) (k l s0 D dA ad p e R s m args below meth c H locs cells slots mc ms ls hG hC hW hL)
theorem w5_icmp_ge {x y : Int} {off : Int} {tgt : Nat} (hd : decode M.2.1 pc = .ok (.if_icmp .ge off, 3)) (ht : (pc : Int) + off = (tgt : Int)) (hx : inI x) (hy : inI y) (kt : y ≤ x → SV_ F E M d bc bs PX tgt L st N h) (kf : x < y → SV_ F E M d bc bs PX (pc + 3) L st N h) : SV_ F E M d bc bs PX pc L ((0, y) :: (0, x) :: st) N h :=
  fun l s0 D dA ad p e R s m args below meth c H locs cells slots mc ms ls hG hC hW hL => lv_icmp_ge (cx_ex hC) (cx_cb hC) hd ht (fun a => kt ((pI_le hy hx).mp a) l s0 D dA ad p e R s m args below meth c H locs cells slots mc ms ls hG hC hW hL) (fun a => kf (Int.not_le.mp (fun z => a ((pI_le hy hx).mpr z))) l s0 D dA ad p e R s m args below meth c H locs cells slots mc ms ls hG hC hW hL)
theorem w5_icmp_gt {x y : Int} {off : Int} {tgt : Nat} (hd : decode M.2.1 pc = .ok (.if_icmp .gt off, 3)) (ht : (pc : Int) + off = (tgt : Int)) (hx : inI x) (hy : inI y) (kt : y < x → SV_ F E M d bc bs PX tgt L st N h) (kf : x ≤ y → SV_ F E M d bc bs PX (pc + 3) L st N h) : SV_ F E M d bc bs PX pc L ((0, y) :: (0, x) :: st) N h :=
  fun l s0 D dA ad p e R s m args below meth c H locs cells slots mc ms ls hG hC hW hL => lv_icmp_gt (cx_ex hC) (cx_cb hC) hd ht (fun a => kt ((pI_lt hy hx).mp a) l s0 D dA ad p e R s m args below meth c H locs cells slots mc ms ls hG hC hW hL) (fun a => kf (Int.not_lt.mp (fun z => a ((pI_lt hy hx).mpr z))) l s0 D dA ad p e R s m args below meth c H locs cells slots mc ms ls hG hC hW hL)
theorem w5_icmp_ne {x y : Int} {off : Int} {tgt : Nat} (hd : decode M.2.1 pc = .ok (.if_icmp .ne off, 3)) (ht : (pc : Int) + off = (tgt : Int)) (hx : inI x) (hy : inI y) (kt : ¬ x = y → SV_ F E M d bc bs PX tgt L st N h) (kf : x = y → SV_ F E M d bc bs PX (pc + 3) L st N h) : SV_ F E M d bc bs PX pc L ((0, y) :: (0, x) :: st) N h :=
  fun l s0 D dA ad p e R s m args below meth c H locs cells slots mc ms ls hG hC hW hL => lv_icmp_ne (cx_ex hC) (cx_cb hC) hd ht (fun a => kt (fun z => a ((pI_eq hx hy).mpr z)) l s0 D dA ad p e R s m args below meth c H locs cells slots mc ms ls hG hC hW hL) (fun a => kf ((pI_eq hx hy).mp a) l s0 D dA ad p e R s m args below meth c H locs cells slots mc ms ls hG hC hW hL)
theorem w5_icmp_lt {x y : Int} {off : Int} {tgt : Nat} (hd : decode M.2.1 pc = .ok (.if_icmp .lt off, 3)) (ht : (pc : Int) + off = (tgt : Int)) (hx : inI x) (hy : inI y) (kt : x < y → SV_ F E M d bc bs PX tgt L st N h) (kf : y ≤ x → SV_ F E M d bc bs PX (pc + 3) L st N h) : SV_ F E M d bc bs PX pc L ((0, y) :: (0, x) :: st) N h :=
  fun l s0 D dA ad p e R s m args below meth c H locs cells slots mc ms ls hG hC hW hL => lv_icmp_lt (cx_ex hC) (cx_cb hC) hd ht (fun a => kt ((pI_lt hx hy).mp a) l s0 D dA ad p e R s m args below meth c H locs cells slots mc ms ls hG hC hW hL) (fun a => kf (Int.not_lt.mp (fun z => a ((pI_lt hx hy).mpr z))) l s0 D dA ad p e R s m args below meth c H locs cells slots mc ms ls hG hC hW hL)
theorem w5_if_eq {x : Int} {off : Int} {tgt : Nat} (hd : decode M.2.1 pc = .ok (.ifCond .eq off, 3)) (ht : (pc : Int) + off = (tgt : Int)) (hx : inI x) (kt : x = 0 → SV_ F E M d bc bs PX tgt L st N h) (kf : ¬ x = 0 → SV_ F E M d bc bs PX (pc + 3) L st N h) : SV_ F E M d bc bs PX pc L ((0, x) :: st) N h :=
  fun l s0 D dA ad p e R s m args below meth c H locs cells slots mc ms ls hG hC hW hL => lv_if_eq (cx_ex hC) (cx_cb hC) hd ht (fun a => kt ((pI_eq hx inI0).mp a) l s0 D dA ad p e R s m args below meth c H locs cells slots mc ms ls hG hC hW hL) (fun a => kf (fun z => a ((pI_eq hx inI0).mpr z)) l s0 D dA ad p e R s m args below meth c H locs cells slots mc ms ls hG hC hW hL)
theorem w5_if_lt {x : Int} {off : Int} {tgt : Nat} (hd : decode M.2.1 pc = .ok (.ifCond .lt off, 3)) (ht : (pc : Int) + off = (tgt : Int)) (hx : inI x) (kt : x < 0 → SV_ F E M d bc bs PX tgt L st N h) (kf : 0 ≤ x → SV_ F E M d bc bs PX (pc + 3) L st N h) : SV_ F E M d bc bs PX pc L ((0, x) :: st) N h :=
  fun l s0 D dA ad p e R s m args below meth c H locs cells slots mc ms ls hG hC hW hL => lv_if_lt (cx_ex hC) (cx_cb hC) hd ht (fun a => kt ((pI_lt hx inI0).mp a) l s0 D dA ad p e R s m args below meth c H locs cells slots mc ms ls hG hC hW hL) (fun a => kf (Int.not_lt.mp (fun z => a ((pI_lt hx inI0).mpr z))) l s0 D dA ad p e R s m args below meth c H locs cells slots mc ms ls hG hC hW hL)
theorem w5_ishl {x w : Int} (hd : decode M.2.1 pc = .ok (.ishl, 1)) (h0 : 0 ≤ w) (h1 : w < 32) (kk : SV_ F E M d bc bs PX (pc + 1) L ((0, x * 2 ^ w.toNat) :: st) N h) : SV_ F E M d bc bs PX pc L ((0, w) :: (0, x) :: st) N h := by
  intro l s0 D dA ad p e R s m args below meth c H locs cells slots mc ms ls hG hC hW hL
  refine lv_ishl (cx_ex hC) (cx_cb hC) hd ?_
  have e9 : Int32.ofInt x <<< Int32.ofInt w = Int32.ofInt (x * 2 ^ w.toNat) := by
    apply Int32.toBitVec_inj.mp
    apply BitVec.eq_of_toNat_eq
    rw [pk_shl _ _ w.toNat (shr_k h0 h1)]
    show (BitVec.ofInt 32 x).toNat * 2 ^ w.toNat % 2 ^ 32 = (BitVec.ofInt 32 (x * 2 ^ w.toNat)).toNat
    rw [BitVec.toNat_ofInt, BitVec.toNat_ofInt]
    have h3 := Int.emod_nonneg x (b := 4294967296) (by decide)
    have h4 := Int.emod_nonneg (x * 2 ^ w.toNat) (b := 4294967296) (by decide)
    apply Int.ofNat.inj
    show (((x % 4294967296).toNat * 2 ^ w.toNat % 4294967296 : Nat) : Int) = (((x * 2 ^ w.toNat) % 4294967296).toNat : Int)
    rw [Int.natCast_emod, Int.natCast_mul, Int.toNat_of_nonneg h3, Int.toNat_of_nonneg h4, Int.natCast_pow]
    show x % 4294967296 * 2 ^ w.toNat % 4294967296 = _
    rw [Int.mul_emod, Int.emod_emod, ← Int.mul_emod]
  show W p l e R s m args below meth c H locs cells slots _ (F0 m (pc + 1) ls (Value.int (Int32.ofInt x <<< (Int32.ofInt w &&& 31)) :: List.map (rv_ ad) st))
  rw [and31 h0 h1, e9]
  exact kk l s0 D dA ad p e R s m args below meth c H locs cells slots mc ms ls hG hC hW hL
theorem w5_ishr {x w : Int} (hd : decode M.2.1 pc = .ok (.ishr, 1)) (hx : inI x) (h0 : 0 ≤ w) (h1 : w < 32) (kk : SV_ F E M d bc bs PX (pc + 1) L ((0, x / 2 ^ w.toNat) :: st) N h) : SV_ F E M d bc bs PX pc L ((0, w) :: (0, x) :: st) N h := by
  intro l s0 D dA ad p e R s m args below meth c H locs cells slots mc ms ls hG hC hW hL
  refine lv_ishr (cx_ex hC) (cx_cb hC) hd ?_
  have e9 : Int32.ofInt x >>> Int32.ofInt w = Int32.ofInt (x / 2 ^ w.toNat) := by
    have h2 : (Int32.ofInt x >>> Int32.ofInt w).toInt = x / 2 ^ w.toNat := by
      rw [pk_shr _ _ w.toNat (shr_k h0 h1), inI_to hx, Int.shiftRight_eq_div_pow]
      rfl
    rw [← h2, Int32.ofInt_toInt]
  show W p l e R s m args below meth c H locs cells slots _ (F0 m (pc + 1) ls (Value.int (Int32.ofInt x >>> (Int32.ofInt w &&& 31)) :: List.map (rv_ ad) st))
  rw [and31 h0 h1, e9]
  exact kk l s0 D dA ad p e R s m args below meth c H locs cells slots mc ms ls hG hC hW hL
end SVA
section SVB
variable {E : EP} {M : PM} {d bc bs : Nat} {F : FP} {PX : String → Nat → PH → Prop} {P : Option PV → Nat → PH → Prop} {pc idx : Nat} {L st : List PV} {N : Nat} {h : PH}
theorem w5_mmax {x y : Int} (hd : decode M.2.1 pc = .ok (.invokestatic idx, 3)) (j : JM_ M.1 idx Lib.Math.max.name Lib.Math.max.code) (hx : inI x) (hy : inI y) (h1 : 1 ≤ d) (hcat : pcat_ st ≤ 8) (kk : SV_ F E M d bc bs PX (pc + 3) L ((0, max x y) :: st) N h) : SV_ F E M d bc bs PX pc L ((0, y) :: (0, x) :: st) N h := by
  intro l s0 D dA ad p e R s m args below meth c H locs cells slots mc ms ls hG hC hW hL
  have hf := cx_f hC (bc' := 0) (bs' := 0) ⟨Nat.zero_le _, Nat.zero_le _⟩
  have hlo := cx_lo hC
  refine va_mmax (cx_ex hC) (cx_cb hC) ((cx_ml hC).trans hL.1.symm) (cx_own hC) (cx_ts hC _ j.1) (cx_ts hC _ j.2.1) (cx_ts hC _ j.2.2.1) (cx_ts hC _ j.2.2.2) (Nat.le_trans h1 (cx_fr hC)) (by rw [pcat_eq]; omega) hf.1 hf.2 hd ?_
  have e9 : (if Int32.ofInt x < Int32.ofInt y then Int32.ofInt y else Int32.ofInt x) = Int32.ofInt (max x y) := by
    by_cases q : x < y
    · rw [if_pos ((pI_lt hx hy).mpr q), Int.max_eq_right (by omega)]
    · rw [if_neg (fun z => q ((pI_lt hx hy).mp z)), Int.max_eq_left (by omega)]
  show W p l e R s m args below meth c H locs cells slots _ (F0 m (pc + 3) ls (Value.int (if Int32.ofInt x < Int32.ofInt y then Int32.ofInt y else Int32.ofInt x) :: List.map (rv_ ad) st))
  rw [e9]
  exact kk l s0 D dA ad p e R s m args below meth c H locs cells slots mc ms ls hG hC hW hL
theorem w5_getsC (hd : decode M.2.1 pc = .ok (.getstatic idx, 3)) (hw : Cond.fieldLink M.1 idx "java/lang/String" "COMPACT_STRINGS" "Z" ∈ TBL) (k : SV_ F E M d bc bs PX (pc + 3) L ((0, 1) :: st) N h) : SV_ F E M d bc bs PX pc L st N h := by
  intro l s0 D dA ad p e R s m args below meth c H locs cells slots mc ms ls hG hC hW hL
  have K := kx_at hG hC
  exact va_gets (A := own_ s0) (C := "java/lang/String") (n := "COMPACT_STRINGS") (d := "Z") (v := .int 1) (ref := "java/lang/String") (cx_ex hC) (cx_cb hC) K.2.2.2.2.2.2.2.2.2.1 hW.2 (cx_own hC) (cx_ts hC _ hw) (fun _ q => q) hd (k l s0 D dA ad p e R s m args below meth c H locs cells slots mc ms ls hG hC hW hL)
theorem w5_getsF (hd : decode M.2.1 pc = .ok (.getstatic idx, 3)) (hw : Cond.fieldLink M.1 idx "jdk/internal/util/Preconditions" "SIOOBE_FORMATTER" "Ljava/util/function/BiFunction;" ∈ TBL) (k : ∀ v : PV, v = (4, 0) ∨ v = (2, 1305) → SV_ F E M d bc bs PX (pc + 3) L (v :: st) N h) : SV_ F E M d bc bs PX pc L st N h := by
  intro l s0 D dA ad p e R s m args below meth c H locs cells slots mc ms ls hG hC hW hL
  have K := kx_at hG hC
  rcases K.2.2.2.2.2.2.2.2.2.2.1 with z | z
  · exact va_gets (A := own_ s0) (v := .null) (ref := "jdk/internal/util/Preconditions") (cx_ex hC) (cx_cb hC) z hW.2 (cx_own hC) (cx_ts hC _ hw) (fun _ q => q) hd (k (4, 0) (Or.inl rfl) l s0 D dA ad p e R s m args below meth c H locs cells slots mc ms ls hG hC hW hL)
  · exact va_gets (A := own_ s0) (v := .ref (ad.2 1305)) (ref := "jdk/internal/util/Preconditions") (cx_ex hC) (cx_cb hC) z hW.2 (cx_own hC) (cx_ts hC _ hw) (fun _ q => q) hd (k (2, 1305) (Or.inr rfl) l s0 D dA ad p e R s m args below meth c H locs cells slots mc ms ls hG hC hW hL)
theorem w5_kfld {v : PV} {o nm ds ref : String} {z : Int} (hd : decode M.2.1 pc = .ok (.getfield idx, 3)) (hK : ∀ (A : Nat → Prop) (U : State) (H : Heap) (ad : AD), Kx_ A U H ad.2 → va_OF o nm ds (rv_ ad v) (ad.2 z) A U H) (hw : Cond.fieldLink M.1 idx o nm ds ∈ TBL) (k : SV_ F E M d bc bs PX (pc + 3) L (v :: st) N h) : SV_ F E M d bc bs PX pc L ((2, z) :: st) N h := by
  intro l s0 D dA ad p e R s m args below meth c H locs cells slots mc ms ls hG hC hW hL
  have K := hK _ _ _ ad (kx_at hG hC)
  exact va_getX (N := 1) (i := 0) (A := own_ s0) (v := fun _ => rv_ ad v) (ad := fun _ => ad.2 z) (ref := o) (cx_ex hC) (cx_cb hC) (fun _ _ => K) (by decide) hW.2 (cx_own hC) (cx_ts hC _ hw) (fun _ q => q) hd (k l s0 D dA ad p e R s m args below meth c H locs cells slots mc ms ls hG hC hW hL)
theorem Cx_end5 {s0 s : State} {D : va_G} {dA : Nat → ClassId} {ad : AD} {H : Heap} {locs : List Loc} (hW : Wd_ s0 D dA ad N h H ∧ va_S (own_ s0) s.heap H locs) {r : Option PV} (hp : P r N h) {args : Array Value} {t : State} (ht : t.heap = H) : Q5_ P s0 D dA ad args s (.returned (r.map (rv_ ad))) t :=
  ⟨⟨r, N, h, rfl, hp, by rw [ht]; exact hW.1⟩, hW.2.F ht⟩
theorem w5_ireturn {x : Int} {ty : FieldType} (hd : decode M.2.1 pc = .ok (.ireturn, 1)) (hr : M.2.2.2 = some ty) (hn : narrow ty (.int (Int32.ofInt x)) = .int (Int32.ofInt x)) (hq : P (some (0, x)) N h) : SV_ (Q5_ P) E M d bc bs PX pc L [(0, x)] N h := by
  intro l s0 D dA ad p e R s m args below meth c H locs cells slots mc ms ls hG hC hW hL
  refine W.widen (k := mc) (n := ms) (by have := (cx_bc hC); omega) (by have := (cx_bs hC); omega) (vx_ret ?_)
  exact W.zret (cx_ex hC) (cx_cb hC) ((cx_rt hC).trans hr) hn (fun t ht _ => Cx_end5 hW (r := some (0, x)) hq ht) (fun q hq => hW.2.2.2 q hq) hd (cx_lk hC)
theorem w5_return (hd : decode M.2.1 pc = .ok (.return_, 1)) (hr : M.2.2.2 = none) (hq : P none N h) : SV_ (Q5_ P) E M d bc bs PX pc L [] N h := by
  intro l s0 D dA ad p e R s m args below meth c H locs cells slots mc ms ls hG hC hW hL
  refine W.widen (k := mc) (n := ms) (by have := (cx_bc hC); omega) (by have := (cx_bs hC); omega) (vx_ret ?_)
  exact W.vret (cx_ex hC) (cx_cb hC) ((cx_rt hC).trans hr) (fun t ht _ => Cx_end5 hW (r := none) hq ht) (fun q hq => hW.2.2.2 q hq) hd (cx_lk hC)
end SVB
section CALL5
variable {E : EP} {M M' : PM} {d d' bc bs : Nat} {Q : PQ} {F : FP} {PX : String → Nat → PH → Prop} {P : Option PV → Nat → PH → Prop} {pc idx n : Nat} {L st stk as : List PV} {N : Nat} {h : PH} {y : MethodName}
/-- behind a call that makes nothing and leaves the text's array where it is -/
theorem back5 {l : Launch} {s0 : State} {D : va_G} {dA : Nat → ClassId} {ad : AD} {p : Program} {e : Env} {R : Room} {s : State} {m : MethodId} {args a' : Array Value} {below : List Frame} {meth : Method} {c : Code} {H : Heap} {locs : List Loc} {cells slots : Nat} {ls : Array Slot} {st0 : List Value} {Qf : State → Prop}
    (hr : vx_Run p l e R s m args below meth c H locs cells slots 0 0 (F0 m pc ls st0) (st.map (rv_ ad)) (Q5_ P s0 D dA ad a') (XC_ s0 D dA ad PX) (own_ s0)) (hS : va_S (own_ s0) s.heap H locs) (kx : ∀ E9 N' h', PX E9 N' h' → False)
    (kk : ∀ (r : Option PV) (N' : Nat) (h' : PH) (H' : Heap) (locs' : List Loc), P r N' h' → Wd_ s0 D dA ad N' h' H' ∧ va_S (own_ s0) s.heap H' locs' → W p l e R s m args below meth c H' locs' cells slots Qf (F0 m (pc + 3) ls ((r.toList ++ st).map (rv_ ad)))) : W p l e R s m args below meth c H locs cells slots Qf (F0 m pc ls st0) := by
  intro T hT X
  rcases hr T hT X with ⟨v, st₀, t, T', Lx, h0, X', hLx, e1, e2, ⟨⟨r, N', h', hv, hp, hWd⟩, hF⟩, stp⟩ | ⟨q, st₀, t, T', Lx, E9, ce, h0, X', hLx, e1, e2, ⟨⟨ad', N', h', ea, hp, hWd⟩, hF⟩, hce, hcv, hcl, stp⟩
  · cases hv
    obtain ⟨k1, k2, k3⟩ := vx_keep h0 e1 hS (fun _ _ z => z) (fun _ z => z) hLx hF
    obtain ⟨t2, a1, b1⟩ := kk r N' h' T'.heap (locs ++ Lx) hp ⟨by rw [e1]; exact hWd, k3⟩ T' rfl X'
    refine ⟨t2, stp t2 ?_, b1⟩
    have e9 : (r.toList ++ st).map (rv_ ad) = (r.map (rv_ ad)).toList ++ st.map (rv_ ad) := by rw [List.map_append]; cases r <;> rfl
    rw [e9] at a1
    exact a1
  · exact (kx _ _ _ hp).elim
theorem run5S {bc' bs' : Nat} {l : Launch} {s0 : State} {D : va_G} {dA : Nat → ClassId} {ad : AD} {p : Program} {e : Env} {R : Room} {s : State} {m : MethodId} {args : Array Value} {below : List Frame} {meth : Method} {c : Code} {H : Heap} {locs : List Loc} {cells slots mc ms : Nat} {ls : Array Slot} (hG : Gl_ l s0 D dA ad.2) (hC : Cx_ E ad.2 M d bc bs s0 p R s m args meth c cells slots mc ms) (hW : Wd_ s0 D dA ad N h H ∧ va_S (own_ s0) s.heap H locs) (hL : lv_has ls M.2.2.1 (as_ ad 0 L)) (hd : decode M.2.1 pc = .ok (.invokestatic idx, 3)) (sf : SF_ M.1 idx y M' n) (hdd : d' + 1 ≤ d ∧ 8 + (M'.2.2.1 + 11) + 37 * d' ≤ 37 * d) (hb : bc' ≤ bc ∧ bs' ≤ bs) (hn : as.length = n) (hst : stk = as.reverse ++ st) (hcat : pcat_ st ≤ 8)
    (C : C5_ y M' d' bc' bs' as N h F PX) : vx_Run p l e R s m args below meth c H locs cells slots bc' bs' (F0 m pc ls (stk.map (rv_ ad))) (st.map (rv_ ad)) (F s0 D dA ad (as.map (rv_ ad)).toArray) (XC_ s0 D dA ad PX) (own_ s0) :=
  vx_runS (As := as.map (rv_ ad)) (rest := st.map (rv_ ad)) (g := F0 m pc ls (stk.map (rv_ ad))) (H := H) (locs := locs) (below := below) (meth := meth) (cells := cells) (slots := slots) (e := e) ⟨cx_ex hC, cx_cb hC, cx_ml hC, cx_own hC, cx_ts hC⟩ (C l s0 D dA ad hG) ⟨cf_cb hC sf.1 sf.2.1 hdd, cx_ts hC _ sf.2.2⟩
    ⟨pc_bl, fun U hU hW' => ⟨rfl, cx_in hC hW', by rw [hU]; exact hW.1⟩⟩ rfl (by rw [List.length_map]; exact hn) hL.1 (by subst hst; simp) (lv_room (by rw [pcat_eq]; exact hcat)) hd (cx_f hC hb)
/-- a static method, called from the one machine and from the other -/
theorem e5_callS (hd : decode M.2.1 pc = .ok (.invokestatic idx, 3)) (sf : SF_ M.1 idx y M' n) (hdd : d' + 1 ≤ d ∧ 8 + (M'.2.2.1 + 11) + 37 * d' ≤ 37 * d) (hn : as.length = n) (hst : stk = as.reverse ++ st) (hcat : pcat_ st ≤ 8)
    (C : C5_ y M' d' 0 0 as N h (Q5_ (fun r N' h' => SE_ E M d bc bs Q (pc + 3) L (r.toList ++ st) N' h')) (fun _ _ _ => False)) : SE_ E M d bc bs Q pc L stk N h := by
  intro l s0 D dA ad p e R s m args below meth c H locs cells slots mc ms ls hG hC hW hL
  exact back5 (run5S hG hC hW hL hd sf hdd ⟨Nat.zero_le _, Nat.zero_le _⟩ hn hst hcat C) hW.2 (fun _ _ _ z => z) (fun r N' h' H' locs' k hW' => k l s0 D dA ad p e R s m args below meth c H' locs' cells slots mc ms ls hG hC hW' hL)
theorem w5_callS (hd : decode M.2.1 pc = .ok (.invokestatic idx, 3)) (sf : SF_ M.1 idx y M' n) (hdd : d' + 1 ≤ d ∧ 8 + (M'.2.2.1 + 11) + 37 * d' ≤ 37 * d) (hn : as.length = n) (hst : stk = as.reverse ++ st) (hcat : pcat_ st ≤ 8)
    (C : C5_ y M' d' 0 0 as N h (Q5_ (fun r N' h' => SV_ F E M d bc bs PX (pc + 3) L (r.toList ++ st) N' h')) (fun _ _ _ => False)) : SV_ F E M d bc bs PX pc L stk N h := by
  intro l s0 D dA ad p e R s m args below meth c H locs cells slots mc ms ls hG hC hW hL
  exact back5 (run5S hG hC hW hL hd sf hdd ⟨Nat.zero_le _, Nat.zero_le _⟩ hn hst hcat C) hW.2 (fun _ _ _ z => z) (fun r N' h' H' locs' k hW' => k l s0 D dA ad p e R s m args below meth c H' locs' cells slots mc ms ls hG hC hW' hL)
/-- a method of a constant object -/
theorem e5_callK {a : Int} {cls : String} (hK : ∀ (A : Nat → Prop) (U : State) (H : Heap) (a2 : Int → Nat), Kx_ A U H a2 → va_O cls (a2 a) A U H) (hd : decode M.2.1 pc = .ok (.invokevirtual idx, 3)) (vf : VF_ M.1 idx y M' n) (hdd : d' + 1 ≤ d ∧ 8 + (M'.2.2.1 + 11) + 37 * d' ≤ 37 * d) (hn : as.length = n) (hst : stk = as.reverse ++ (2, a) :: st) (hcat : pcat_ st ≤ 8) (hy : cls = y.cls)
    (C : C5_ y M' d' 0 0 ((2, a) :: as) N h (Q5_ (fun r N' h' => SE_ E M d bc bs Q (pc + 3) L (r.toList ++ st) N' h')) (fun _ _ _ => False)) : SE_ E M d bc bs Q pc L stk N h := by
  intro l s0 D dA ad p e R s m args below meth c H locs cells slots mc ms ls hG hC hW hL
  have K := hK _ _ _ _ (kx_at hG hC)
  obtain ⟨cell, k1, k2, k3, k4⟩ := K
  have hlt : ad.2 a < s.heap.size := (Array.getElem?_eq_some_iff.mp k1).1
  have hr := vx_runV (As := as.map (rv_ ad)) (rest := st.map (rv_ ad)) (b := ad.2 a) (C := y.cls) (g := F0 m pc ls (stk.map (rv_ ad))) (H := H) (locs := locs) (below := below) (meth := meth) (cells := cells) (slots := slots) (e := e) ⟨cx_ex hC, cx_cb hC, cx_ml hC, cx_own hC, cx_ts hC⟩ (C l s0 D dA ad hG) ⟨cf_cb hC vf.1 vf.2.1 hdd, cx_ts hC _ vf.2.2.1, cx_ts hC _ vf.2.2.2⟩
    ⟨pc_bl, ⟨cell, by rw [hW.2.2.1 _ hlt k4]; exact k1, k2, by rw [← hy]; exact k3⟩, fun U hU hW' => ⟨rfl, cx_in hC hW', by rw [hU]; exact hW.1⟩⟩ rfl (by rw [List.length_map]; exact hn) hL.1 (by subst hst; simp [rv_]) (lv_room (by rw [pcat_eq]; exact hcat)) hd (cx_f hC ⟨Nat.zero_le _, Nat.zero_le _⟩)
  exact back5 hr hW.2 (fun _ _ _ z => z) (fun r N' h' H' locs' k hW' => k l s0 D dA ad p e R s m args below meth c H' locs' cells slots mc ms ls hG hC hW' hL)
end CALL5
