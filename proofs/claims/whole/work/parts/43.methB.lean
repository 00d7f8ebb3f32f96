/-! THE WHOLE (OneGoCeiling): judge, image -/
section MethB
variable {o : Nat} {K K9 R : CK} {hs hs9 : List (Nat × Nat)} {lD lL tp wa hd er : List Int32} {z im : Int32} {k : NS} {bt : Nat → Int32} {sh : Nat → List Int32} {h g : AH} {Q : Option Value → AH → Prop}
theorem sh_t {a : Int32} (h : shB a = true) : ∃ j, a = nI j ∧ j < 4 := by
  have h2 := of_decide_eq_true h
  exact ⟨a.toInt.toNat, (nI_tn (by omega) (by omega)).symm, by omega⟩
set_option maxHeartbeats 8000000 in
theorem ct_G_judge {a : Int32} (q : GA o K hs lD lL tp wa z k bt sh hd er im g) (e1 : shB a = false → ∀ g', GA o K hs lD lL tp wa z k bt sh hd (errL er 1) im g' → Off o 95 g g' → Q (some (.int (-1000000000 - 1))) g') (e2 : ∀ j, a = nI j → j < 4 → bt j = 0 → ∀ g', GA o K hs lD lL tp wa z k bt sh hd (errL er 2) im g' → Off o 95 g g' → Q (some (.int (-1000000000 - 2))) g') (hP : ∀ j, a = nI j → j < 4 → ¬ bt j = 0 → ∀ g', GA o K hs lD lL tp wa z k bt sh hd er im g' → Off o 95 g g' → Q (some (.int (fowI (sh j) (tab K.1 K.2.1 fun r s => iI (K.2.2.2.2.2.2.2.2.1 r s))))) g') : CV 6 0 0 mX11_judge o [.int a] g Q := by
  refine ⟨q.V, ?_⟩
  refine ct_of (by decide) (fun _ _ => Nat.le_of_ble_eq_true rfl) ?_
  dsimp only [pad, ent]
  refine aw_P (P' := fun g' => GA o K hs lD lL tp wa z k bt sh hd er im g' ∧ Off o 95 g g') (fun g' e => by subst e; exact ⟨q, Off.rf _ _ _⟩) ?_
  by_cases hb : shB a = true
  · obtain ⟨j, hj, hj4⟩ := sh_t hb
    refine r_aload_n (pc := 0) dX11_judge_0 rfl ?_
    refine r_iload_n (pc := 1) dX11_judge_1 rfl ?_
    rw [hj]
    refine r_Vr (pc := 2) (μ' := mX11_sheetOf) dX11_judge_2 nX11_239 iX11_sheetOf vX11_sheetOf kX11_sheetOf rfl rfl (rr (by decide) rfl) rfl ⟨Nat.zero_le _, Nat.zero_le _⟩ (fun g' q => sheet_in q.1 hj4 q) ?_
    refine r_astore_n (pc := 5) dX11_judge_5 rfl (Nat.le_of_ble_eq_true rfl) rfl ?_
    dsimp only [lset]
    refine r_aload_n (pc := 6) dX11_judge_6 rfl ?_
    refine r_ifnonnull (pc := 7) 16 dX11_judge_7 (by decide) ?_
    refine r_aload_n (pc := 16) dX11_judge_16 rfl ?_
    refine r_Vi (pc := 17) (μ' := mX6_isMissing) dX11_judge_17 nX11_243 iX6_isMissing vX6_isMissing kX6_isMissing rfl rfl (rr (by decide) rfl) rfl ⟨Nat.zero_le _, Nat.zero_le _⟩ (fun g' q => ct_Sheet_isMissing (q.1.Sh j hj4) q) ?_
    refine r_if_eq (pc := 20) 29 dX11_judge_20 (by decide) (fun c20 => ?_) (fun c20 => ?_)
    · skip
      have k3 : ¬ bt j = 0 := of_decide_eq_false (b2i_0.mp c20)
      refine r_aload_n (pc := 29) dX11_judge_29 rfl ?_
      refine r_getf (pc := 30) (k := 0) dX11_judge_30 hX11 eX11 (by decide) fX11_10 (fun _ q => q.1.oo) rfl ?_
      refine r_getf (pc := 33) (k := 0) dX11_judge_33 hX7 eX7 (by decide) fX11_92 (fun _ q => q.1.s) rfl ?_
      refine r_aload_n (pc := 36) dX11_judge_36 rfl ?_
      refine r_getf (pc := 37) (k := 0) dX11_judge_37 hX6 eX6 (by decide) fX11_246 (fun _ q => (q.1.Sh j hj4).o) rfl ?_
      refine r_Vi (pc := 40) (μ' := mX0_firstOtherWhen) dX11_judge_40 nX11_351 iX0_firstOtherWhen vX0_firstOtherWhen kX0_firstOtherWhen rfl rfl (rr (by decide) rfl) rfl ⟨Nat.zero_le _, Nat.zero_le _⟩ (fun g' q => ct_Ceil_firstOtherWhen (q.1.Ci : CeilI _ _ _ _ _ _ _ _ _ _ _ _) (q.1.Sh j hj4).2.2 q) ?_
      refine r_ireturn (pc := 43) (ty := .int) dX11_judge_43 rfl rfl ⟨Nat.zero_le _, Nat.zero_le _⟩ (fun gE hg => ?_)
      exact hP j hj hj4 k3 _ hg.1 hg.2
    · skip
      have k3 : bt j = 0 := of_decide_eq_true (b2i_n0.mp c20)
      refine r_aload_n (pc := 23) dX11_judge_23 rfl ?_
      refine r_iconst (pc := 24) (v := 2) dX11_judge_24 (by decide) ?_
      refine r_Vi (pc := 25) (μ' := mX11_error) dX11_judge_25 nX11_88 iX11_error vX11_error kX11_error rfl rfl (rr (by decide) rfl) rfl ⟨Nat.zero_le _, Nat.zero_le _⟩ (fun g' q => ct_G_error (P' := fun g2 => Q (some (.int (-1000000000 - 2))) g2) q.1 (fun g2 x y => e2 j hj hj4 k3 g2 x (q.2.tr y))) ?_
      refine r_ireturn (pc := 28) (ty := .int) dX11_judge_28 rfl rfl ⟨Nat.zero_le _, Nat.zero_le _⟩ (fun gE hg => ?_)
      exact hg
  · have hb2 : shB a = false := by cases h : shB a <;> simp_all
    refine r_aload_n (pc := 0) dX11_judge_0 rfl ?_
    refine r_iload_n (pc := 1) dX11_judge_1 rfl ?_
    refine r_VrN (pc := 2) (μ' := mX11_sheetOf) dX11_judge_2 nX11_239 iX11_sheetOf vX11_sheetOf kX11_sheetOf rfl rfl (rr (by decide) rfl) rfl ⟨Nat.zero_le _, Nat.zero_le _⟩ (fun g' q => sheet_out q.1 (of_decide_eq_false hb2) q) ?_
    refine r_astore_nN (pc := 5) dX11_judge_5 rfl (Nat.le_of_ble_eq_true rfl) rfl ?_
    dsimp only [lset]
    refine r_aload_nN (pc := 6) dX11_judge_6 rfl ?_
    refine r_ifnonnullN (pc := 7) dX11_judge_7 ?_
    refine r_aload_n (pc := 10) dX11_judge_10 rfl ?_
    refine r_iconst (pc := 11) (v := 1) dX11_judge_11 (by decide) ?_
    refine r_Vi (pc := 12) (μ' := mX11_error) dX11_judge_12 nX11_88 iX11_error vX11_error kX11_error rfl rfl (rr (by decide) rfl) rfl ⟨Nat.zero_le _, Nat.zero_le _⟩ (fun g' q => ct_G_error (P' := fun g2 => Q (some (.int (-1000000000 - 1))) g2) q.1 (fun g2 x y => e1 hb2 g2 x (q.2.tr y))) ?_
    refine r_ireturn (pc := 15) (ty := .int) dX11_judge_15 rfl rfl ⟨Nat.zero_le _, Nat.zero_le _⟩ (fun gE hg => ?_)
    exact hg
set_option maxHeartbeats 8000000 in
theorem ct_G_image (q : GA o K hs lD lL tp wa z k bt sh hd er im g) (hP : ∀ g', GA o K hs lD lL tp wa z (noCan K, hs, lD, lL, tp, wa, z) bt sh hd er (im + 1) g' → Off o 95 g g' → Q (some (.int (im + 1))) g') : CV 6 0 0 mX11_image o [] g Q := by
  refine ⟨q.V, ?_⟩
  refine ct_of (by decide) (fun _ _ => Nat.le_of_ble_eq_true rfl) ?_
  dsimp only [pad, ent]
  refine aw_P (P' := fun g' => GA o K hs lD lL tp wa z k bt sh hd er im g' ∧ Off o 95 g g') (fun g' e => by subst e; exact ⟨q, Off.rf _ _ _⟩) ?_
  refine r_aload_n (pc := 0) dX11_image_0 rfl ?_
  refine r_getf (pc := 1) (k := 1) dX11_image_1 hX11 eX11 (by decide) fX11_16 (fun _ q => q.1.oo) rfl ?_
  refine r_aload_n (pc := 4) dX11_image_4 rfl ?_
  refine r_getf (pc := 5) (k := 0) dX11_image_5 hX11 eX11 (by decide) fX11_10 (fun _ q => q.1.oo) rfl ?_
  refine r_Vv (pc := 8) (μ' := mX7_take) dX11_image_8 nX11_354 iX7_take vX7_take kX7_take rfl rfl (rr (by decide) rfl) rfl ⟨Nat.zero_le _, Nat.zero_le _⟩ (fun g' q => ct_St_take (P' := fun g2 => GA o K hs lD lL tp wa z (noCan K, hs, lD, lL, tp, wa, z) bt sh hd er im g2 ∧ Off o 95 g g2) q.1.Ke q.1.St (by omega) (fun g2 x y => ⟨q.1.setK (k9 := (noCan K, hs, lD, lL, tp, wa, z)) x y, q.2.tr (y.wide (by omega) (by omega))⟩)) ?_
  refine r_aload_n (pc := 11) dX11_image_11 rfl ?_
  refine r_dup (pc := 12) dX11_image_12 rfl ?_
  refine r_getf (pc := 13) (k := 8) dX11_image_13 hX11 eX11 (by decide) fX11_74 (fun _ q => q.1.oo) rfl ?_
  refine r_iconst (pc := 16) (v := 1) dX11_image_16 (by decide) ?_
  refine r_iadd (pc := 17) dX11_image_17 ?_
  refine r_putf (pc := 18) (k := 8) (P' := fun g' => GA o K hs lD lL tp wa z (noCan K, hs, lD, lL, tp, wa, z) bt sh hd er (im + 1) g' ∧ Off o 95 g g') tyX11 dX11_image_18 hX11 tyX11_ok nmX11 eX11 (by decide) fX11_74 rfl rfl (fun _ _ => rfl) (fun _ _ => rfl) (Nat.le_of_ble_eq_true rfl) (fun _ q => q.1.oo) (fun _ q => ⟨q.1.putI, q.2.set (by omega) (by omega)⟩) ?_
  refine r_aload_n (pc := 21) dX11_image_21 rfl ?_
  refine r_getf (pc := 22) (k := 8) dX11_image_22 hX11 eX11 (by decide) fX11_74 (fun _ q => q.1.oo) rfl ?_
  refine r_ireturn (pc := 25) (ty := .int) dX11_image_25 rfl rfl ⟨Nat.zero_le _, Nat.zero_le _⟩ (fun gE hg => ?_)
  exact hP _ hg.1 hg.2
end MethB
