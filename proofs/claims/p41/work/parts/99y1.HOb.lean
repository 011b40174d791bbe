/-! the law's house: what is told is read -/
theorem zend_51 {z : PH} {n : Int} : zend z n 51 = z 51 := if_neg (by decide)
theorem zend_53 {z : PH} {n : Int} : zend z n 53 = z 53 := if_neg (by decide)
theorem zend_50 {z : PH} {n : Int} : zend z n 50 = fun _ => n := if_pos rfl
theorem wv_end {f : Int → Int} {i j : Int} (hz : ∀ x : Int, i ≤ x → f x = 0) (i1 : i ≤ 20) (j0 : 0 ≤ j) (j1 : j < 5) : wv_ f i j = wv_ f 20 j := by
  have e : ∀ x : Int, x < 20 → bt_ f i x = bt_ f 20 x := fun x hx => by
    rw [bt_lt hx]
    by_cases c : x < i
    · rw [bt_lt c]
    · rw [bt_ge (by omega), hz x (by omega)]
  unfold wv_
  rw [e _ (by omega), e _ (by omega), e _ (by omega), e _ (by omega)]
theorem wv_0 {f : Int → Int} {j : Int} (j0 : 0 ≤ j) : wv_ f 0 j = 0 := by
  unfold wv_
  rw [bt_ge (by omega), bt_ge (by omega), bt_ge (by omega), bt_ge (by omega)]
  rfl
theorem bt_bd {f : Int → Int} (hf : ∀ x : Int, 0 ≤ f x ∧ f x < 128) (m x : Int) : 0 ≤ bt_ f m x ∧ bt_ f m x < 128 := by
  unfold bt_
  split
  · exact hf x
  · exact ⟨by decide, by decide⟩
theorem wv_in {f : Int → Int} (hf : ∀ x : Int, 0 ≤ f x ∧ f x < 128) (m j : Int) : inI (wv_ f m j) := by
  have a0 := bt_bd hf m (4 * j)
  have a1 := bt_bd hf m (4 * j + 1)
  have a2 := bt_bd hf m (4 * j + 2)
  have a3 := bt_bd hf m (4 * j + 3)
  unfold wv_
  exact ⟨by omega, by omega⟩
theorem g_201 {h : PH} {i v : Int} (hG : G h) (hv : inI v) : G (hs_ h 201 i v) := by
  refine ⟨fun x hx => ?_, hi_put hG.2 hv⟩
  rw [hs_ne _ (fun z => (rf_199 x hx).2.2 z.1)]
  exact hG.1 x hx
theorem st_fc {h h' : PH} {q n : Nat} {f : Int → Int} (T : ST_ h q n f) (F : FC h h') : ST_ h' q n f := st_to T (funext fun y => F 199 y (by decide)) (funext fun y => F 200 y (by decide))
section HOU
variable {b len : Nat} {xs : Nat → Int32} {d bc bs : Nat} {Q : PQ} {h z : PH} {q n : Nat} {F : Int → Int} {k : Int}
set_option maxRecDepth 100000 in
set_option maxHeartbeats 4000000 in
theorem h_136 {u : UT} {j : Nat} {V : PH → Prop} (hd : 15 ≤ d) (C : CR_ h z) (TP : TP_ z k F) (T : ST_ h q n F) (hk : (n : Int) ≤ k) (n1 : n ≤ 400) (R : RT_ j u V) (hj : j ≤ 400) (hu : u.1 = n) (hFu : ∀ i : Int, 0 ≤ i → i < u.1 → F i = u.2 i) (hb : 1 ≤ bc ∧ 6 ≤ bs) (K : ∀ h1 z1 : PH, CR_ h1 z1 → z1 53 0 = 0 → Q.1 (some (2, 0)) 202 h1) : SE_ (EL_ b len xs) ML_house d bc bs Q 136 [(2, 1399), (2, 0), (6, (q : Int)), (0, k), (9, 0), (9, 0)] [] 202 h := by
  have hr : (zrd (zend z n)).1 = -1 := by
    have e := rt_all R hj (T := z 51) (fun i i0 i1 => (TP.2.1 i i0 (by omega)).trans (hFu i i0 i1))
    rw [hu] at e
    unfold zrd
    rw [zend_51, zend_50]
    exact e
  refine s_aload_n dL_house_136 rfl ?_
  refine s_aload6_n dL_house_137 rfl ?_
  refine e0_call6 (d' := d - 1) (bc' := 0) (bs' := 0) (as := []) dL_house_138 vf_L_87 rfl (dd_ (by omega) (by decide)) ⟨Nat.zero_le _, Nat.zero_le _⟩ rfl rfl (Nat.le_of_ble_eq_true rfl) (by decide) T ?_
  refine c6_length (by decide) T (by omega) (by omega) ?_
  refine e0_callV (d' := d - 1) (bc' := 0) (bs' := 0) (as := [(0, (n : Int))]) dL_house_141 vf_L_101 (dd_ (by omega) (by decide)) ⟨Nat.zero_le _, Nat.zero_le _⟩ rfl rfl (Nat.le_of_ble_eq_true rfl) kl_6 rfl io_0 ?_
  refine c_X8_end C ⟨by omega, by omega⟩ (fun _ _ h1 C1 f1 => ?_) (fun c => absurd ⟨by omega, by rw [TP.1]; exact hk⟩ c)
  refine s_istore_n dL_house_144 (by decide) rfl (L' := [_, _, _, _, _, _]) rfl ?_
  refine s_iload_n dL_house_145 rfl ?_
  refine s_if_eq (tgt := 156) dL_house_146 (by decide) ⟨by decide, by decide⟩ (fun c => absurd c (by decide)) (fun _ => ?_)
  refine s_aload_n dL_house_149 rfl ?_
  refine e0_callV (d' := d - 1) (bc' := 1) (bs' := 6) (as := []) dL_house_150 vf_L_105 (dd_ (by omega) (by decide)) hb rfl rfl (Nat.le_of_ble_eq_true rfl) kl_6 rfl io_0 ?_
  refine c_X8_read (by omega) (Nat.le_refl _) (Nat.le_refl _) C1 (fun _ h2 C2 _ => ?_) (fun c => absurd hr c)
  refine s_goto (tgt := 157) dL_house_153 (by decide) ?_
  refine s_istore dL_house_157 (by decide) rfl (L' := [_, _, _, _, _, _]) rfl ?_
  refine s_aload_n dL_house_159 rfl ?_
  exact s_areturn dL_house_160 rfl (Or.inl ⟨_, rfl⟩) (K h2 _ C2 (by rw [zread_0 (Or.inr rfl)]))
set_option maxRecDepth 100000 in
set_option maxHeartbeats 4000000 in
theorem h_51 {w : Nat} (hd : 15 ≤ d) (hF : ∀ x : Int, 0 ≤ F x ∧ F x < 128) (k0 : 0 ≤ k) (n1 : n ≤ 400) (hz : ∀ x : Int, (n : Int) ≤ x → F x = 0) (K : ∀ (i : Int) (h1 : PH), CR_ h1 z → ST_ h1 q n F → ua_ (-9) (h1 201) = w → (∀ j : Int, 0 ≤ j → j < 5 → h1 201 j = wv_ (fun x => F (k + x)) 20 j) → SE_ (EL_ b len xs) ML_house d bc bs Q 104 [(2, 1399), (2, 0), (6, (q : Int)), (0, k), (6, (w : Int)), (0, i)] [] 202 h1) : ∀ (m : Nat) (i : Int) (h : PH), 0 ≤ i → i + m = 20 → k + i ≤ n → CR_ h z → ST_ h q n F → ua_ (-9) (h 201) = w → (∀ j : Int, 0 ≤ j → j < 5 → h 201 j = wv_ (fun x => F (k + x)) i j) → SE_ (EL_ b len xs) ML_house d bc bs Q 51 [(2, 1399), (2, 0), (6, (q : Int)), (0, k), (6, (w : Int)), (0, i)] [] 202 h := by
  intro m
  induction m with
  | zero =>
    intro i h i0 im ki C T hw W5
    refine s_iload dL_house_51 rfl ?_
    refine s_bipush dL_house_53 (by decide) ?_
    refine s_icmp_ge (tgt := 104) dL_house_55 (by decide) ⟨by omega, by omega⟩ ⟨by omega, by omega⟩ (fun c1 => ?_) (fun c1 => absurd c1 (by omega))
    have e : i = 20 := by omega
    subst e
    exact K _ h C T hw W5
  | succ m ih =>
    intro i h i0 im ki C T hw W5
    have hG := cr_g C
    refine s_iload dL_house_51 rfl ?_
    refine s_bipush dL_house_53 (by decide) ?_
    refine s_icmp_ge (tgt := 104) dL_house_55 (by decide) ⟨by omega, by omega⟩ ⟨by omega, by omega⟩ (fun c1 => absurd c1 (by omega)) (fun c1 => ?_)
    refine s_iload_n dL_house_58 rfl ?_
    refine s_iload dL_house_59 rfl ?_
    refine s_iadd dL_house_61 ?_
    refine s_aload6_n dL_house_62 rfl ?_
    refine e0_call6 (d' := d - 1) (bc' := 0) (bs' := 0) (as := []) dL_house_63 vf_L_87 rfl (dd_ (by omega) (by decide)) ⟨Nat.zero_le _, Nat.zero_le _⟩ rfl rfl (Nat.le_of_ble_eq_true rfl) (by decide) T ?_
    refine c6_length (by decide) T (by omega) (by omega) ?_
    refine s_icmp_ge (tgt := 104) dL_house_66 (by decide) ⟨by omega, by omega⟩ ⟨by omega, by omega⟩ (fun c2 => ?_) (fun c2 => ?_)
    · exact K _ h C T hw (fun j j0 j1 => (W5 j j0 j1).trans (wv_end (fun x hx => hz _ (by omega)) (by omega) j0 j1))
    · have hf : ∀ x : Int, 0 ≤ (fun x => F (k + x)) x ∧ (fun x => F (k + x)) x < 128 := fun x => hF _
      obtain ⟨n9, a9, p1, p2, p3, p4, p5, p6⟩ := pk_step (f := fun x => F (k + x)) hf i0
      refine s_aload6 dL_house_69 rfl ?_
      refine s_iload dL_house_71 rfl ?_
      refine s_iconst dL_house_73 ?_
      refine s_idiv dL_house_74 ⟨by omega, by omega⟩ ⟨by omega, by omega⟩ (by omega) (by omega) ?_
      rw [Int.tdiv_eq_ediv_of_nonneg i0]
      refine s_dup2 dL_house_75 rfl rfl ?_
      refine s_iald5 dL_house_76 hw (by omega) (by omega) ?_
      rw [W5 (i / 4) (by omega) (by omega)]
      refine s_aload6_n dL_house_77 rfl ?_
      refine s_iload_n dL_house_78 rfl ?_
      refine s_iload dL_house_79 rfl ?_
      refine s_iadd dL_house_81 ?_
      refine e0_call6 (d' := d - 1) (bc' := 0) (bs' := 0) (as := [(0, k + i)]) dL_house_82 vf_L_93 rfl (dd_ (by omega) (by decide)) ⟨Nat.zero_le _, Nat.zero_le _⟩ rfl rfl (Nat.le_of_ble_eq_true rfl) (by decide) T ?_
      refine c6_charAt (by decide) T (by omega) (by omega) (by omega) (by omega) (hF _) ?_
      refine s_bipush dL_house_85 (by decide) ?_
      refine s_bipush dL_house_87 (by decide) ?_
      refine s_iload dL_house_89 rfl ?_
      refine s_iconst dL_house_91 ?_
      refine s_irem dL_house_92 ⟨by omega, by omega⟩ ⟨by omega, by omega⟩ (by omega) (by omega) ?_
      rw [Int.tmod_eq_emod_of_nonneg i0]
      refine s_imul dL_house_93 ?_
      refine s_isub dL_house_94 ?_
      refine s_ishl dL_house_95 (by omega) (by omega) ?_
      refine s_iorA n9 dL_house_96 p1 p2 p3 p4 p5 ?_
      rw [p6]
      refine s_iast5 dL_house_97 hw (by omega) (by omega) ?_
      refine s_iinc dL_house_98 rfl (by decide) rfl (L' := [_, _, _, _, _, _]) rfl ?_
      refine s_goto (tgt := 51) dL_house_101 (by decide) ?_
      have e9 : ∀ x : Int, x ≠ 201 → hs_ h 201 (i / 4) (wv_ (fun x => F (k + x)) (i + 1) (i / 4)) x = h x := fun x hx => funext fun y => hs_ne h (fun z => hx z.1)
      refine ih (i + 1) _ (by omega) (by omega) (by omega) (cr_201 C (g_201 hG (wv_in hf _ _)) e9) (st_to T (e9 199 (by decide)) (e9 200 (by decide))) (by rw [ua_hs (by omega)]; exact hw) (fun j j0 j1 => ?_)
      by_cases c : j = i / 4
      · rw [c, hs_eq]
      · rw [hs_ne _ (fun z => c z.2), W5 j j0 j1, wv_ne c]
set_option maxRecDepth 100000 in
set_option maxHeartbeats 4000000 in
theorem h_104 {w : Nat} {i : Int} (hd : 15 ≤ d) (hF : ∀ x : Int, 0 ≤ F x ∧ F x < 128) (k1 : k ≤ 380) (k2 : inI k) (C : CR_ h z) (TP : TP_ z k F) (T : ST_ h q n F) (hw : ua_ (-9) (h 201) = w) (W5 : ∀ j : Int, 0 ≤ j → j < 5 → h 201 j = wv_ (fun x => F (k + x)) 20 j) (K : ∀ h1 z1 : PH, CR_ h1 z1 → TP_ z1 (k + 20) F → ST_ h1 q n F → SE_ (EL_ b len xs) ML_house d bc bs Q 35 [(2, 1399), (2, 0), (6, (q : Int)), (0, k + 20), (9, 0), (9, 0)] [] 202 h1) : SE_ (EL_ b len xs) ML_house d bc bs Q 104 [(2, 1399), (2, 0), (6, (q : Int)), (0, k), (6, (w : Int)), (0, i)] [] 202 h := by
  have hf : ∀ x : Int, 0 ≤ (fun x => F (k + x)) x ∧ (fun x => F (k + x)) x < 128 := fun x => hF _
  have wi := wv_in hf 20
  refine s_aload_n dL_house_104 rfl ?_
  refine s_aload6 dL_house_105 rfl ?_
  refine s_iconst dL_house_107 ?_
  refine s_iald5 dL_house_108 hw (by omega) (by omega) ?_
  refine s_aload6 dL_house_109 rfl ?_
  refine s_iconst dL_house_111 ?_
  refine s_iald5 dL_house_112 hw (by omega) (by omega) ?_
  refine s_aload6 dL_house_113 rfl ?_
  refine s_iconst dL_house_115 ?_
  refine s_iald5 dL_house_116 hw (by omega) (by omega) ?_
  refine s_aload6 dL_house_117 rfl ?_
  refine s_iconst dL_house_119 ?_
  refine s_iald5 dL_house_120 hw (by omega) (by omega) ?_
  refine s_aload6 dL_house_121 rfl ?_
  refine s_iconst dL_house_123 ?_
  refine s_iald5 dL_house_124 hw (by omega) (by omega) ?_
  have w0 := W5 0 (by omega) (by omega)
  have w1 := W5 1 (by omega) (by omega)
  have w2 := W5 2 (by omega) (by omega)
  have w3 := W5 3 (by omega) (by omega)
  have w4 := W5 4 (by omega) (by omega)
  refine e0_callV (d' := d - 1) (bc' := 0) (bs' := 0) (as := [(0, h 201 0), (0, h 201 1), (0, h 201 2), (0, h 201 3), (0, h 201 4)]) dL_house_125 vf_L_97 (dd_ (by omega) (by decide)) ⟨Nat.zero_le _, Nat.zero_le _⟩ rfl rfl (Nat.le_of_ble_eq_true rfl) kl_6 rfl io_0 ?_
  refine c_X8_feed (by omega) C (by rw [w0]; exact wi _) (by rw [w1]; exact wi _) (by rw [w2]; exact wi _) (by rw [w3]; exact wi _) (by rw [w4]; exact wi _) (fun _ h1 C1 f1 => ?_) (fun c => absurd c (by rw [TP.1]; omega))
  refine s_istore dL_house_128 (by decide) rfl (L' := [_, _, _, _, _, _]) rfl ?_
  refine s_iinc dL_house_130 rfl (by decide) rfl (L' := [_, _, _, _, _, _]) rfl ?_
  refine s_goto (tgt := 35) dL_house_133 (by decide) ?_
  refine s_fg (L' := [_, _, _, _, (9, 0), (9, 0)]) ⟨Or.inr rfl, Or.inr rfl, Or.inr rfl, Or.inr rfl, Or.inl rfl, Or.inl rfl, trivial⟩ ?_
  exact K h1 _ C1 (zfeed_tp TP hF w0 w1 w2 w3 w4) (st_fc T f1)
set_option maxRecDepth 100000 in
set_option maxHeartbeats 4000000 in
theorem h_43 (hd : 15 ≤ d) (hF : ∀ x : Int, 0 ≤ F x ∧ F x < 128) (k0 : 0 ≤ k) (k1 : k < n) (n1 : n ≤ 330) (hz : ∀ x : Int, (n : Int) ≤ x → F x = 0) (C : CR_ h z) (TP : TP_ z k F) (T : ST_ h q n F) (hb : 1 ≤ bc ∧ 5 ≤ bs) (K : ∀ h1 z1 : PH, CR_ h1 z1 → TP_ z1 (k + 20) F → ST_ h1 q n F → SE_ (EL_ b len xs) ML_house d (bc - 1) (bs - 5) Q 35 [(2, 1399), (2, 0), (6, (q : Int)), (0, k + 20), (9, 0), (9, 0)] [] 202 h1) : SE_ (EL_ b len xs) ML_house d bc bs Q 43 [(2, 1399), (2, 0), (6, (q : Int)), (0, k), (9, 0), (9, 0)] [] 201 h := by
  refine s_iconst dL_house_43 ?_
  refine s_new5 dL_house_44 hb (fun w => ?_)
  refine s_astore6 dL_house_46 (by decide) rfl (L' := [_, _, _, _, _, _]) rfl ?_
  refine s_iconst dL_house_48 ?_
  refine s_istore dL_house_49 (by decide) rfl (L' := [_, _, _, _, _, _]) rfl ?_
  refine h_51 hd hF k0 (by omega) hz (fun i h1 C1 T1 hw W5 => h_104 hd hF (by omega) ⟨by omega, by omega⟩ C1 TP T1 hw W5 K) 20 0 _ (by omega) (by omega) (by omega) (cr_201 C (g_wx (cr_g C)) (fun x hx => wy_ne hx)) (st_to T (wy_ne (by decide)) (wy_ne (by decide))) wy_q (fun j j0 j1 => ?_)
  rw [wy_0 (by omega), wv_0 j0]
set_option maxRecDepth 100000 in
set_option maxHeartbeats 4000000 in
theorem h_35 {u : UT} {j : Nat} {V : PH → Prop} (hd : 15 ≤ d) (hF : ∀ x : Int, 0 ≤ F x ∧ F x < 128) (n1 : n ≤ 330) (hz : ∀ x : Int, (n : Int) ≤ x → F x = 0) (R : RT_ j u V) (hj : j ≤ 400) (hu : u.1 = n) (hFu : ∀ i : Int, 0 ≤ i → i < u.1 → F i = u.2 i) (K : ∀ h1 z1 : PH, CR_ h1 z1 → z1 53 0 = 0 → Q.1 (some (2, 0)) 202 h1) : ∀ (m : Nat) (k : Int) (bc bs : Nat) (h z : PH), (n : Int) ≤ k + 20 * m → 0 ≤ k → k < 400 → CR_ h z → TP_ z k F → ST_ h q n F → m + 1 ≤ bc → 5 * m + 6 ≤ bs → SE_ (EL_ b len xs) ML_house d bc bs Q 35 [(2, 1399), (2, 0), (6, (q : Int)), (0, k), (9, 0), (9, 0)] [] 202 h := by
  intro m
  induction m with
  | zero =>
    intro k bc bs h z km k0 k1 C TP T hbc hbs
    refine s_iload_n dL_house_35 rfl ?_
    refine s_aload6_n dL_house_36 rfl ?_
    refine e0_call6 (d' := d - 1) (bc' := 0) (bs' := 0) (as := []) dL_house_37 vf_L_87 rfl (dd_ (by omega) (by decide)) ⟨Nat.zero_le _, Nat.zero_le _⟩ rfl rfl (Nat.le_of_ble_eq_true rfl) (by decide) T ?_
    refine c6_length (by decide) T (by omega) (by omega) ?_
    refine s_icmp_ge (tgt := 136) dL_house_40 (by decide) ⟨by omega, by omega⟩ ⟨by omega, by omega⟩ (fun c1 => ?_) (fun c1 => absurd c1 (by omega))
    exact h_136 hd C TP T c1 (by omega) R hj hu hFu ⟨by omega, by omega⟩ K
  | succ m ih =>
    intro k bc bs h z km k0 k1 C TP T hbc hbs
    refine s_iload_n dL_house_35 rfl ?_
    refine s_aload6_n dL_house_36 rfl ?_
    refine e0_call6 (d' := d - 1) (bc' := 0) (bs' := 0) (as := []) dL_house_37 vf_L_87 rfl (dd_ (by omega) (by decide)) ⟨Nat.zero_le _, Nat.zero_le _⟩ rfl rfl (Nat.le_of_ble_eq_true rfl) (by decide) T ?_
    refine c6_length (by decide) T (by omega) (by omega) ?_
    refine s_icmp_ge (tgt := 136) dL_house_40 (by decide) ⟨by omega, by omega⟩ ⟨by omega, by omega⟩ (fun c1 => ?_) (fun c1 => ?_)
    · exact h_136 hd C TP T c1 (by omega) R hj hu hFu ⟨by omega, by omega⟩ K
    · refine s_forget ?_
      exact h_43 hd hF k0 (by omega) n1 hz C TP T ⟨by omega, by omega⟩ (fun h1 z1 C1 TP1 T1 => ih (k + 20) _ _ h1 z1 (by omega) (by omega) (by omega) C1 TP1 T1 (by omega) (by omega))
theorem hi_197 {w : Int} : hI_ [(197, [(0, w)])] = hs_ hF 197 0 w := by
  funext x y
  by_cases c : x = 197
  · subst c
    rw [hi_hd, lk_put]
    by_cases e : y = 0
    · subst e
      rw [if_pos rfl, hs_eq]
    · rw [if_neg e, hs_ne _ (fun z => e z.2), hF_at (l := []) (by decide +kernel)]
  · rw [hi_tl c, hs_ne _ (fun z => c z.1)]
    rfl
set_option maxRecDepth 100000 in
set_option maxHeartbeats 4000000 in
theorem c_L_house (hl : len ≤ 3072) (hv : VV_ 0 0 0 0 yz_) (hbc : 2000 ≤ bc) (hbs : 8000 ≤ bs) (K : ∀ h1 z1 : PH, CR_ h1 z1 → z1 53 0 = 0 → Q.1 (some (2, 0)) 202 h1) : CLS_ b len xs yL_house ML_house 15 bc bs [(2, 1399)] 0 (hI_ []) Q := by
  refine s_enterL pn_L rfl (Nat.le_of_ble_eq_true rfl) (L := [(2, _), (9, 0), (9, 0), (9, 0), (9, 0), (9, 0)]) rfl ?_
  refine r_newc (ci := 6) (a := 0) (N' := 1) (b1 := bc - 1) (s1 := bs - 11) dL_house_0 nc_L_71 kl_6 nf_6 (by decide +kernel) (by decide) rfl rfl ⟨by omega, by show bs - 11 + 11 = bs; omega⟩ ?_
  refine s_dup dL_house_3 rfl ?_
  refine e0_callI (d' := 4) (bc' := 196) (bs' := 3084) (as := []) eg_L dL_house_4 if_L_73 (by decide) ⟨by omega, by omega⟩ rfl rfl (Nat.le_of_ble_eq_true rfl) (n_0 ?_)
  refine s_astore_n dL_house_7 (by decide) rfl (L' := [_, _, _, _, _, _]) rfl ?_
  refine r_newc (ci := 7) (a := 197) (N' := 198) (b1 := bc - 1 - 196 - 1) (s1 := bs - 11 - 3084 - 1) dL_house_8 nc_L_12 kl_7 nf_7 (by decide +kernel) (by decide) rfl rfl ⟨by omega, by show bs - 11 - 3084 - 1 + 1 = bs - 11 - 3084; omega⟩ ?_
  refine s_dup dL_house_11 rfl ?_
  refine s_aload_n dL_house_12 rfl ?_
  refine s_iconst dL_house_13 ?_
  refine eL_callS (d' := 14) (bc' := 0) (bs' := 0) (as := [_, _]) dL_house_14 sf_L_74 (by decide) ⟨Nat.zero_le _, Nat.zero_le _⟩ rfl rfl (Nat.le_of_ble_eq_true rfl) ?_
  refine c_L_draw hl (by omega) (by omega) (fun r0 => ?_)
  refine s_bipush dL_house_17 (by decide) ?_
  refine s_imul dL_house_19 ?_
  refine s_aload_n dL_house_20 rfl ?_
  refine s_iconst dL_house_21 ?_
  refine eL_callS (d' := 14) (bc' := 0) (bs' := 0) (as := [_, _]) dL_house_22 sf_L_74 (by decide) ⟨Nat.zero_le _, Nat.zero_le _⟩ rfl rfl (Nat.le_of_ble_eq_true rfl) ?_
  refine c_L_draw hl (by omega) (by omega) (fun r1 => ?_)
  refine s_iadd dL_house_25 ?_
  refine e0_callI (d' := 1) (bc' := 0) (bs' := 0) (as := [(0, _)]) eg_L dL_house_26 if_L_80 (by decide) ⟨Nat.zero_le _, Nat.zero_le _⟩ rfl rfl (Nat.le_of_ble_eq_true rfl) (n_197 ?_)
  rw [hi_197]
  generalize hw : w32 (r0 * 31 + r1) = v
  have vi : inI v := hw ▸ w32_in _
  have hG0 : G (hs_ hF 197 0 v) := g_d197 gF_ vi
  have e8 : hs_ hF 197 0 v 198 = hF 198 := funext fun y => hs_ne hF (fun z => absurd z.1 (by decide))
  have hB : HB_ (hs_ hF 197 0 v) := by
    unfold HB_
    rw [e8]
    refine ⟨by decide +kernel, by decide +kernel, by decide +kernel, fun k => ?_⟩
    rw [hF_at (l := [(-1, 16)]) (by decide +kernel), lk_put, if_neg (by omega), lk_nil]
    unfold df_
    rw [show (198 : Int).toNat = 198 from rfl, sh_195, if_neg (by decide), if_neg (by decide), if_pos rfl]
  refine e0_callS (d' := 14) (bc' := 1000) (bs' := 3100) (as := [_]) dL_house_29 sf_L_83 (by decide) ⟨by omega, by omega⟩ rfl rfl (Nat.le_of_ble_eq_true rfl) ?_
  refine c_L_text (by decide) (fun h u j V T ft R hj u1 u0 o q b9 g hg hgi => ?_) hB hG0 hv (Nat.le_refl _) (Nat.le_refl _)
  obtain ⟨t1, ⟨⟨t2, t3⟩, ⟨t4, t5⟩, t6⟩, t7, t8, t9⟩ := T
  have hn : ((u.1.toNat : Nat) : Int) = u.1 := by omega
  have eF : ∀ x : Int, x < 197 → sx_ h q b9 u.1.toNat g x = hF x := fun x hx => by
    rw [sx_ne (by omega) (by omega), ft x (by omega) (by omega)]
    exact funext fun y => hs_ne hF (fun z => by omega)
  have e98 : sx_ h q b9 u.1.toNat g 198 = h 198 := sx_ne (by decide) (by decide)
  have C : CR_ (sx_ h q b9 u.1.toNat g) (zT u) := by
    refine cr_T (g_sx t1 (by omega) hgi) eF (by omega) u1 o ?_ ?_ ?_ ?_ ?_ ?_
    · rw [e98]; exact t8
    · rw [e98]; exact t9
    · rw [e98]; exact t2
    · rw [e98]; exact t3
    · rw [e98, ← t8]; exact t5
    · rw [e98]; exact t7
  have T : ST_ (sx_ h q b9 u.1.toNat g) q u.1.toNat (fun i => if 0 ≤ i ∧ i < u.1 then u.2 i else 0) := by
    obtain ⟨s1, s2, s3, s4, s5, s6⟩ := st_sx (h := h) (q := q) (b := b9) (n := u.1.toNat) (g := g)
    refine ⟨s1, s2, s3, s4, s5, fun k k0 k1 => ?_⟩
    rw [s6 k k0 k1]
    show g k.toNat = (if 0 ≤ k ∧ k < u.1 then u.2 k else 0)
    rw [hg k.toNat (by omega), if_pos ⟨k0, by omega⟩, show ((k.toNat : Nat) : Int) = k by omega]
  have hF9 : ∀ x : Int, 0 ≤ (fun i : Int => if 0 ≤ i ∧ i < u.1 then u.2 i else 0) x ∧ (fun i : Int => if 0 ≤ i ∧ i < u.1 then u.2 i else 0) x < 128 := fun x => by
    show 0 ≤ (if 0 ≤ x ∧ x < u.1 then u.2 x else 0) ∧ (if 0 ≤ x ∧ x < u.1 then u.2 x else 0) < 128
    split
    · rename_i c
      exact o x c.1 c.2
    · exact ⟨by decide, by decide⟩
  have hz9 : ∀ x : Int, (u.1.toNat : Int) ≤ x → (fun i : Int => if 0 ≤ i ∧ i < u.1 then u.2 i else 0) x = 0 := fun x hx => if_neg (by omega)
  have hFu : ∀ i : Int, 0 ≤ i → i < u.1 → (fun i : Int => if 0 ≤ i ∧ i < u.1 then u.2 i else 0) i = u.2 i := fun i a b => if_pos ⟨a, b⟩
  have TP : TP_ (zT u) 0 (fun i => if 0 ≤ i ∧ i < u.1 then u.2 i else 0) := ⟨by rw [zT_ne (by decide) (by decide)]; decide, fun i a b => absurd b (by omega), by rw [zT_ne (by decide) (by decide)]; decide⟩
  generalize (fun i : Int => if 0 ≤ i ∧ i < u.1 then u.2 i else 0) = F at T hF9 hz9 hFu TP
  refine s_astore6_n dL_house_32 (by decide) rfl (L' := [_, _, _, _, _, _]) rfl ?_
  refine s_iconst dL_house_33 ?_
  refine s_istore_n dL_house_34 (by decide) rfl (L' := [_, _, _, _, _, _]) rfl ?_
  refine s_iload_n dL_house_35 rfl ?_
  refine s_aload6_n dL_house_36 rfl ?_
  refine e0_call6 (d' := 14) (bc' := 0) (bs' := 0) (as := []) dL_house_37 vf_L_87 rfl (by decide) ⟨Nat.zero_le _, Nat.zero_le _⟩ rfl rfl (Nat.le_of_ble_eq_true rfl) (by decide) T ?_
  refine c6_length (by decide) T (by omega) (by omega) ?_
  refine s_icmp_ge (tgt := 136) dL_house_40 (by decide) ⟨by omega, by omega⟩ ⟨by omega, by omega⟩ (fun c1 => absurd c1 (by omega)) (fun c1 => ?_)
  refine h_43 (by decide) hF9 (by omega) (by omega) (by omega) hz9 C TP T ⟨by omega, by omega⟩ (fun h1 z1 C1 TP1 T1 => ?_)
  exact h_35 (by decide) hF9 (by omega) hz9 R (by omega) (by omega) hFu K 20 _ _ _ h1 z1 (by omega) (by omega) (by omega) C1 TP1 T1 (by omega) (by omega)
end HOU
