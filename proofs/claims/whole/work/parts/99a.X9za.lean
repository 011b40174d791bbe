/-! the reference takes all of it -/
section X9ZA
variable {d bc bs : Nat} {Q : PQ} {h h0 : PH}
set_option maxRecDepth 100000 in
set_option maxHeartbeats 4000000 in
theorem c_X9_takesAll  (hG : G h) (k : ∀ h1 : PH, G h1 → TK_ h h1 → Q.1 none nN h1) : Cl_ yX9_takesAll MX9_takesAll d bc bs [(2, 196)] nN h Q := by
  refine s_enter pn_X9 rfl (Nat.le_of_ble_eq_true rfl) (L := [(2, _), (9, 0)]) rfl ?_
  refine s_aload_n dX9_takesAll_0 rfl ?_
  refine s_aload_n dX9_takesAll_1 rfl ?_
  refine s_geti dX9_takesAll_2 fl_X9_211 kl_7 (by decide) rfl io_196 (z := 19) rfl ?_
  refine s_putiG 5 dX9_takesAll_5 fl_X9_278 kl_7 (by decide) rfl rfl io_196 (z := 5) rfl (by decide +kernel) hG (by first | exact hG.2 _ _ | exact b01_in _ | assumption | exact ⟨by omega, by omega⟩) (fun hG1 => ?_)
  refine s_aload_n dX9_takesAll_8 rfl ?_
  refine s_aload_n dX9_takesAll_9 rfl ?_
  refine s_geti dX9_takesAll_10 fl_X9_204 kl_7 (by decide) rfl io_196 (z := 20) rfl ?_
  rw [hs_ne _ (by omega)]
  refine s_putiG 6 dX9_takesAll_13 fl_X9_281 kl_7 (by decide) rfl rfl io_196 (z := 6) rfl (by decide +kernel) hG1 (by first | exact hG1.2 _ _ | exact hG.2 _ _ | exact b01_in _ | assumption | exact ⟨by omega, by omega⟩) (fun hG2 => ?_)
  refine s_aload_n dX9_takesAll_16 rfl ?_
  refine s_aload_n dX9_takesAll_17 rfl ?_
  refine s_geti dX9_takesAll_18 fl_X9_214 kl_7 (by decide) rfl io_196 (z := 21) rfl ?_
  rw [hs_ne _ (by omega), hs_ne _ (by omega)]
  refine s_putiG 7 dX9_takesAll_21 fl_X9_275 kl_7 (by decide) rfl rfl io_196 (z := 7) rfl (by decide +kernel) hG2 (by first | exact hG2.2 _ _ | exact hG.2 _ _ | exact b01_in _ | assumption | exact ⟨by omega, by omega⟩) (fun hG3 => ?_)
  refine s_iconst dX9_takesAll_24 ?_
  refine s_istore_n dX9_takesAll_25 (by decide) rfl (L' := [_, _]) rfl ?_
  refine lp_X9_tkA (fun hA iA gA fA eA => ?_) 61 0 _ (Int.le_refl _) (by omega) hG3 (fun _ _ _ => rfl) (fun j j0 j1 => by omega)
  have hG := gA
  refine s_iconst dX9_takesAll_50 ?_
  refine s_istore_n dX9_takesAll_51 (by decide) rfl (L' := [_, _]) rfl ?_
  refine lp_X9_tkB (fun hB iB gB fB eB => ?_) 8 0 _ (Int.le_refl _) (by omega) gA (fun _ _ _ => rfl) (fun j j0 j1 => by omega)
  have hG := gB
  refine s_iconst dX9_takesAll_76 ?_
  refine s_istore_n dX9_takesAll_77 (by decide) rfl (L' := [_, _]) rfl ?_
  refine lp_X9_tkC (fun hC iC gC fC eC => ?_) 12 0 _ (Int.le_refl _) (by omega) gB (fun _ _ _ => rfl) (fun j j0 j1 => by omega)
  have hG := gC
  refine s_iconst dX9_takesAll_126 ?_
  refine s_istore_n dX9_takesAll_127 (by decide) rfl (L' := [_, _]) rfl ?_
  refine lp_X9_tkD (fun hD iD gD fD eD => ?_) 60 0 _ (Int.le_refl _) (by omega) gC (fun _ _ _ => rfl) (fun j j0 j1 => by omega)
  have hG := gD
  refine s_aload_n dX9_takesAll_152 rfl ?_
  refine s_iconst dX9_takesAll_153 ?_
  refine s_putiG 4 dX9_takesAll_154 fl_X9_284 kl_7 (by decide) rfl rfl io_196 (z := 4) rfl (by decide +kernel) hG (by first | exact hG.2 _ _ | exact b01_in _ | assumption | exact ⟨by omega, by omega⟩) (fun hG1 => ?_)
  refine s_return dX9_takesAll_157 rfl (k _ hG1 ⟨⟨?_, ?_, ?_, hs_eq _ _ _ _⟩, fun j j0 j1 => ?_, fun j j0 j1 => ?_, fun j j0 j1 => ⟨?_, ?_, ?_⟩, fun j j0 j1 => ?_, fun x y p q r => ?_⟩)
  · rw [hs_ne _ (by omega), fD _ _ (by omega), fC _ _ (by omega), fB _ _ (by omega), fA _ _ (by omega), hs_ne _ (by omega), hs_ne _ (by omega), hs_eq]
  · rw [hs_ne _ (by omega), fD _ _ (by omega), fC _ _ (by omega), fB _ _ (by omega), fA _ _ (by omega), hs_ne _ (by omega), hs_eq]
  · rw [hs_ne _ (by omega), fD _ _ (by omega), fC _ _ (by omega), fB _ _ (by omega), fA _ _ (by omega), hs_eq]
  · rw [hs_ne _ (by omega), fD _ _ (by omega), fC _ _ (by omega), fB _ _ (by omega), eA j j0 j1, hs_ne _ (by omega), hs_ne _ (by omega), hs_ne _ (by omega)]
  · rw [hs_ne _ (by omega), fD _ _ (by omega), fC _ _ (by omega), eB j j0 j1, fA _ _ (by omega), hs_ne _ (by omega), hs_ne _ (by omega), hs_ne _ (by omega)]
  · rw [hs_ne _ (by omega), fD _ _ (by omega), (eC j j0 j1).1, fB _ _ (by omega), fA _ _ (by omega), hs_ne _ (by omega), hs_ne _ (by omega), hs_ne _ (by omega)]
  · rw [hs_ne _ (by omega), fD _ _ (by omega), (eC j j0 j1).2.1, fB _ _ (by omega), fA _ _ (by omega), hs_ne _ (by omega), hs_ne _ (by omega), hs_ne _ (by omega)]
  · rw [hs_ne _ (by omega), fD _ _ (by omega), (eC j j0 j1).2.2, fB _ _ (by omega), fA _ _ (by omega), hs_ne _ (by omega), hs_ne _ (by omega), hs_ne _ (by omega)]
  · rw [hs_ne _ (by omega), eD j j0 j1, fC _ _ (by omega), fB _ _ (by omega), fA _ _ (by omega), hs_ne _ (by omega), hs_ne _ (by omega), hs_ne _ (by omega)]
  · rw [hs_ne _ (by omega), fD _ _ (by omega), fC _ _ (by omega), fB _ _ (by omega), fA _ _ (by omega), hs_ne _ (by omega), hs_ne _ (by omega), hs_ne _ (by omega)]
end X9ZA
