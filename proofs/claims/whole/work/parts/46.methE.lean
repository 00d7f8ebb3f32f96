/-! THE WHOLE (OneGoCeiling): trace, sheet, move, whites -/
section MethE
variable {o : Nat} {K K9 R : CK} {hs hs9 : List (Nat × Nat)} {lD lL tp wa hd er : List Int32} {z im : Int32} {k : NS} {bt : Nat → Int32} {sh : Nat → List Int32} {h g : AH} {Q : Option Value → AH → Prop} {P' : AH → Prop}
theorem heard_G (q : GA o K hs lD lL tp wa z k bt sh hd er im h) (hP : P' h) : CV 1 0 0 mX10_heard (o + 77) [] h (fun v g' => v = some (.ref (o + 77 + 1)) ∧ P' g') := by
  obtain ⟨nu, kd, m, v⟩ := q.Vo
  exact ct_Vo_heard v hP
theorem GA.He (q : GA o K hs lD lL tp wa z k bt sh hd er im h) : RowAt (o + 77 + 1) 40 hd h := by
  obtain ⟨nu, kd, m, v⟩ := q.Vo
  exact v.2.2
set_option maxHeartbeats 8000000 in
theorem ct_G_trace {a : Int32} (q : GA o K hs lD lL tp wa z k bt sh hd er im g) (e2 : hasL hd a = false → ∀ g', GA o K hs lD lL tp wa z k bt sh hd (errL er 2) im g' → Off o 95 g g' → Q (some (.int (-1000000000 - 2))) g') (hP : hasL hd a = true → ∀ g', GA o K hs lD lL tp wa z k bt sh hd er im g' → Off o 95 g g' → Q (some (.int (atL hd a))) g') : CV 4 0 0 mX11_trace o [.int a] g Q := by
  refine ⟨q.V, ?_⟩
  refine ct_of (by decide) (fun _ _ => Nat.le_of_ble_eq_true rfl) ?_
  dsimp only [pad, ent]
  refine aw_P (P' := fun g' => GA o K hs lD lL tp wa z k bt sh hd er im g' ∧ Off o 95 g g') (fun g' e => by subst e; exact ⟨q, Off.rf _ _ _⟩) ?_
  refine r_aload_n (pc := 0) dX11_trace_0 rfl ?_
  refine r_getf (pc := 1) (k := 5) dX11_trace_1 hX11 eX11 (by decide) fX11_54 (fun _ q => q.1.oo) rfl ?_
  refine r_Vr (pc := 4) (μ' := mX10_heard) dX11_trace_4 nX11_317 iX10_heard vX10_heard kX10_heard rfl rfl (rr (by decide) rfl) rfl ⟨Nat.zero_le _, Nat.zero_le _⟩ (fun g' q => heard_G q.1 q) ?_
  refine r_iload_n (pc := 7) dX11_trace_7 rfl ?_
  refine r_Vi (pc := 8) (μ' := mX5_has) dX11_trace_8 nX11_321 iX5_has vX5_has kX5_has rfl rfl (rr (by decide) rfl) rfl ⟨Nat.zero_le _, Nat.zero_le _⟩ (fun g' q => ct_Row_has q.1.He q) ?_
  refine r_if_eq (pc := 11) 28 dX11_trace_11 (by decide) (fun c11 => ?_) (fun c11 => ?_)
  · skip
    have k1 := b2i_0.mp c11
    refine r_aload_n (pc := 28) dX11_trace_28 rfl ?_
    refine r_iconst (pc := 29) (v := 2) dX11_trace_29 (by decide) ?_
    refine r_Vi (pc := 30) (μ' := mX11_error) dX11_trace_30 nX11_88 iX11_error vX11_error kX11_error rfl rfl (rr (by decide) rfl) rfl ⟨Nat.zero_le _, Nat.zero_le _⟩ (fun g' q => ct_G_error (P' := fun g2 => Q (some (.int (-1000000000 - 2))) g2) q.1 (fun g2 x y => e2 k1 g2 x (q.2.tr y))) ?_
    refine r_ireturn (pc := 33) (ty := .int) dX11_trace_33 rfl rfl ⟨Nat.zero_le _, Nat.zero_le _⟩ (fun gE hg => ?_)
    exact hg
  · skip
    have k1 := b2i_n0.mp c11
    refine r_aload_n (pc := 14) dX11_trace_14 rfl ?_
    refine r_getf (pc := 15) (k := 5) dX11_trace_15 hX11 eX11 (by decide) fX11_54 (fun _ q => q.1.oo) rfl ?_
    refine r_Vr (pc := 18) (μ' := mX10_heard) dX11_trace_18 nX11_317 iX10_heard vX10_heard kX10_heard rfl rfl (rr (by decide) rfl) rfl ⟨Nat.zero_le _, Nat.zero_le _⟩ (fun g' q => heard_G q.1 q) ?_
    refine r_iload_n (pc := 21) dX11_trace_21 rfl ?_
    refine r_Vi (pc := 22) (μ' := mX5_at) dX11_trace_22 nX11_322 iX5_at vX5_at kX5_at rfl rfl (rr (by decide) rfl) rfl ⟨Nat.zero_le _, Nat.zero_le _⟩ (fun g' q => ct_Row_at (P' := fun g2 => Q (some (.int (atL hd a))) g2) q.1.He (hP k1 _ q.1 q.2)) ?_
    refine r_goto (pc := 25) 33 dX11_trace_25 (by decide) ?_
    refine r_ireturn (pc := 33) (ty := .int) dX11_trace_33 rfl rfl ⟨Nat.zero_le _, Nat.zero_le _⟩ (fun gE hg => ?_)
    exact hg
def wdB (b : Int32) : Bool := decide (b = 0 ∨ b = 8 ∨ b = 16 ∨ b = 32)
set_option maxHeartbeats 8000000 in
theorem ct_G_sheet {a b c : Int32} (q : GA o K hs lD lL tp wa z k bt sh hd er im g) (e1 : (shB a && wdB b) = false → ∀ g', GA o K hs lD lL tp wa z k bt sh hd (errL er 1) im g' → Off o 95 g g' → Q (some (.int (-1000000000 - 1))) g') (h0 : ∀ j, a = nI j → j < 4 → b = 0 → ∀ g', GA o K hs lD lL tp wa z k (upS bt j 0) (upS sh j []) hd er im g' → Off o 95 g g' → Q (some (.int 1)) g') (e3 : ∀ j, a = nI j → j < 4 → wdB b = true → ¬ b = 0 → c.toInt < 0 → ∀ g', GA o K hs lD lL tp wa z k bt sh hd (errL er 3) im g' → Off o 95 g g' → Q (some (.int (-1000000000 - 3))) g') (e1b : ∀ j, a = nI j → j < 4 → wdB b = true → ¬ b = 0 → 40 < c.toInt → ∀ g', GA o K hs lD lL tp wa z k bt sh hd (errL er 1) im g' → Off o 95 g g' → Q (some (.int (-1000000000 - 1))) g') (hP : ∀ j n, a = nI j → j < 4 → wdB b = true → ¬ b = 0 → c = nI n → n ≤ 40 → ∀ g', GA o K hs lD lL tp wa z k (upS bt j b) (upS sh j (List.replicate n 0)) hd er im g' → Off o 95 g g' → Q (some (.int 1)) g') : CV 6 0 0 mX11_sheet o [.int a, .int b, .int c] g Q := by
  refine ⟨q.V, ?_⟩
  refine ct_of (by decide) (fun _ _ => Nat.le_of_ble_eq_true rfl) ?_
  dsimp only [pad, ent]
  refine aw_P (P' := fun g' => GA o K hs lD lL tp wa z k bt sh hd er im g' ∧ Off o 95 g g') (fun g' e => by subst e; exact ⟨q, Off.rf _ _ _⟩) ?_
  by_cases hb : shB a = true
  · obtain ⟨j, hj, hj4⟩ := sh_t hb
    refine r_aload_n (pc := 0) dX11_sheet_0 rfl ?_
    refine r_iload_n (pc := 1) dX11_sheet_1 rfl ?_
    rw [hj]
    refine r_Vr (pc := 2) (μ' := mX11_sheetOf) dX11_sheet_2 nX11_239 iX11_sheetOf vX11_sheetOf kX11_sheetOf rfl rfl (rr (by decide) rfl) rfl ⟨Nat.zero_le _, Nat.zero_le _⟩ (fun g' q => sheet_in q.1 hj4 q) ?_
    refine r_astore (pc := 5) dX11_sheet_5 (Nat.le_of_ble_eq_true rfl) rfl ?_
    dsimp only [lset]
    refine r_aload (pc := 7) dX11_sheet_7 rfl ?_
    refine r_ifnull (pc := 9) dX11_sheet_9 ?_
    refine r_iload_n (pc := 12) dX11_sheet_12 rfl ?_
    refine r_Sp (pc := 13) (μ' := mX6_isWidth) dX11_sheet_13 nX11_325 sX6_isWidth kX6_isWidth rfl rfl (rr (by decide) rfl) rfl ⟨Nat.zero_le _, Nat.zero_le _⟩ (fun h => ct_Sheet_isWidth h) ?_
    refine r_if_ne (pc := 16) 25 dX11_sheet_16 (by decide) (fun c16 => ?_) (fun c16 => ?_)
    · skip
      have k1 : wdB b = true := b2i_n0.mp c16
      refine r_iload_n (pc := 25) dX11_sheet_25 rfl ?_
      refine r_if_ne (pc := 26) 36 dX11_sheet_26 (by decide) (fun c26 => ?_) (fun c26 => ?_)
      · skip
        refine r_iload_n (pc := 36) dX11_sheet_36 rfl ?_
        refine r_if_ge (pc := 37) 46 dX11_sheet_37 (by decide) (fun c37 => ?_) (fun c37 => ?_)
        · skip
          refine r_iload_n (pc := 46) dX11_sheet_46 rfl ?_
          refine r_bipush (pc := 47) (v := 40) dX11_sheet_47 (by decide) ?_
          refine r_icmp_le (pc := 49) 58 dX11_sheet_49 (by decide) (fun c49 => ?_) (fun c49 => ?_)
          · skip
            have hc0 := fa_le.mp c37
            have hc4 := fa_le.mp c49
            rw [t0] at hc0
            rw [show (40 : Int32).toInt = 40 from rfl] at hc4
            refine r_aload (pc := 58) dX11_sheet_58 rfl ?_
            refine r_iload_n (pc := 60) dX11_sheet_60 rfl ?_
            refine r_iload_n (pc := 61) dX11_sheet_61 rfl ?_
            refine r_Vv (pc := 62) (μ' := mX6_renew) dX11_sheet_62 nX11_331 iX6_renew vX6_renew kX6_renew rfl rfl (rr (by decide) rfl) rfl ⟨Nat.zero_le _, Nat.zero_le _⟩ (fun g' q => ct_Sheet_renew (P' := fun g2 => Q (some (.int 1)) g2) (q.1.Sh j hj4) (fun g2 x y => hP j c.toInt.toNat hj hj4 k1 c26 (nI_tn (by omega) (by omega)).symm (by omega) g2 (q.1.setSh (q.1.Sh.put hj4 (by rw [show clampI c 40 = c.toInt.toNat by unfold clampI; omega] at x; exact x) y) (y.wide (by omega) (by omega))) (q.2.tr (y.wide (by omega) (by omega))))) ?_
            refine r_iconst (pc := 65) (v := 1) dX11_sheet_65 (by decide) ?_
            refine r_ireturn (pc := 66) (ty := .int) dX11_sheet_66 rfl rfl ⟨Nat.zero_le _, Nat.zero_le _⟩ (fun gE hg => ?_)
            exact hg
          · skip
            refine r_aload_n (pc := 52) dX11_sheet_52 rfl ?_
            refine r_iconst (pc := 53) (v := 1) dX11_sheet_53 (by decide) ?_
            refine r_Vi (pc := 54) (μ' := mX11_error) dX11_sheet_54 nX11_88 iX11_error vX11_error kX11_error rfl rfl (rr (by decide) rfl) rfl ⟨Nat.zero_le _, Nat.zero_le _⟩ (fun g' q => ct_G_error (P' := fun g2 => Q (some (.int (-1000000000 - 1))) g2) q.1 (fun g2 x y => e1b j hj hj4 k1 c26 (by rw [fa_le, show (40 : Int32).toInt = 40 from rfl] at c49; omega) g2 x (q.2.tr y))) ?_
            refine r_ireturn (pc := 57) (ty := .int) dX11_sheet_57 rfl rfl ⟨Nat.zero_le _, Nat.zero_le _⟩ (fun gE hg => ?_)
            exact hg
        · skip
          refine r_aload_n (pc := 40) dX11_sheet_40 rfl ?_
          refine r_iconst (pc := 41) (v := 3) dX11_sheet_41 (by decide) ?_
          refine r_Vi (pc := 42) (μ' := mX11_error) dX11_sheet_42 nX11_88 iX11_error vX11_error kX11_error rfl rfl (rr (by decide) rfl) rfl ⟨Nat.zero_le _, Nat.zero_le _⟩ (fun g' q => ct_G_error (P' := fun g2 => Q (some (.int (-1000000000 - 3))) g2) q.1 (fun g2 x y => e3 j hj hj4 k1 c26 (by rw [fa_le, t0] at c37; omega) g2 x (q.2.tr y))) ?_
          refine r_ireturn (pc := 45) (ty := .int) dX11_sheet_45 rfl rfl ⟨Nat.zero_le _, Nat.zero_le _⟩ (fun gE hg => ?_)
          exact hg
      · skip
        refine r_aload (pc := 29) dX11_sheet_29 rfl ?_
        refine r_Vv (pc := 31) (μ' := mX6_remove) dX11_sheet_31 nX11_328 iX6_remove vX6_remove kX6_remove rfl rfl (rr (by decide) rfl) rfl ⟨Nat.zero_le _, Nat.zero_le _⟩ (fun g' q => ct_Sheet_remove (P' := fun g2 => Q (some (.int 1)) g2) (q.1.Sh j hj4) (fun g2 x y => h0 j hj hj4 c26 g2 (q.1.setSh (q.1.Sh.put hj4 x y) (y.wide (by omega) (by omega))) (q.2.tr (y.wide (by omega) (by omega))))) ?_
        refine r_iconst (pc := 34) (v := 1) dX11_sheet_34 (by decide) ?_
        refine r_ireturn (pc := 35) (ty := .int) dX11_sheet_35 rfl rfl ⟨Nat.zero_le _, Nat.zero_le _⟩ (fun gE hg => ?_)
        exact hg
    · skip
      have k1 : wdB b = false := b2i_0.mp c16
      refine r_aload_n (pc := 19) dX11_sheet_19 rfl ?_
      refine r_iconst (pc := 20) (v := 1) dX11_sheet_20 (by decide) ?_
      refine r_Vi (pc := 21) (μ' := mX11_error) dX11_sheet_21 nX11_88 iX11_error vX11_error kX11_error rfl rfl (rr (by decide) rfl) rfl ⟨Nat.zero_le _, Nat.zero_le _⟩ (fun g' q => ct_G_error (P' := fun g2 => Q (some (.int (-1000000000 - 1))) g2) q.1 (fun g2 x y => e1 (by rw [hb, k1]; rfl) g2 x (q.2.tr y))) ?_
      refine r_ireturn (pc := 24) (ty := .int) dX11_sheet_24 rfl rfl ⟨Nat.zero_le _, Nat.zero_le _⟩ (fun gE hg => ?_)
      exact hg
  · have hb2 : shB a = false := by cases h : shB a <;> simp_all
    refine r_aload_n (pc := 0) dX11_sheet_0 rfl ?_
    refine r_iload_n (pc := 1) dX11_sheet_1 rfl ?_
    refine r_VrN (pc := 2) (μ' := mX11_sheetOf) dX11_sheet_2 nX11_239 iX11_sheetOf vX11_sheetOf kX11_sheetOf rfl rfl (rr (by decide) rfl) rfl ⟨Nat.zero_le _, Nat.zero_le _⟩ (fun g' q => sheet_out q.1 (of_decide_eq_false hb2) q) ?_
    refine r_astoreN (pc := 5) dX11_sheet_5 (Nat.le_of_ble_eq_true rfl) rfl ?_
    dsimp only [lset]
    refine r_aloadN (pc := 7) dX11_sheet_7 rfl ?_
    refine r_ifnullN (pc := 9) 19 dX11_sheet_9 (by decide) ?_
    refine r_aload_n (pc := 19) dX11_sheet_19 rfl ?_
    refine r_iconst (pc := 20) (v := 1) dX11_sheet_20 (by decide) ?_
    refine r_Vi (pc := 21) (μ' := mX11_error) dX11_sheet_21 nX11_88 iX11_error vX11_error kX11_error rfl rfl (rr (by decide) rfl) rfl ⟨Nat.zero_le _, Nat.zero_le _⟩ (fun g' q => ct_G_error (P' := fun g2 => Q (some (.int (-1000000000 - 1))) g2) q.1 (fun g2 x y => e1 (by rw [hb2]; rfl) g2 x (q.2.tr y))) ?_
    refine r_ireturn (pc := 24) (ty := .int) dX11_sheet_24 rfl rfl ⟨Nat.zero_le _, Nat.zero_le _⟩ (fun gE hg => ?_)
    exact hg
def rnB (l : List Int32) (i n : Int32) : Bool := decide (0 ≤ i.toInt ∧ 0 ≤ n.toInt ∧ i.toInt + n.toInt ≤ l.length)
set_option maxHeartbeats 8000000 in
theorem ct_G_move {a i b j n : Int32} (q : GA o K hs lD lL tp wa z k bt sh hd er im g) (e1 : (shB a && shB b) = false → ∀ g', GA o K hs lD lL tp wa z k bt sh hd (errL er 1) im g' → Off o 95 g g' → Q (some (.int (-1000000000 - 1))) g') (e2 : ∀ s t, a = nI s → s < 4 → b = nI t → t < 4 → (bt s = 0 ∨ bt t = 0) → ∀ g', GA o K hs lD lL tp wa z k bt sh hd (errL er 2) im g' → Off o 95 g g' → Q (some (.int (-1000000000 - 2))) g') (e5 : ∀ s t, a = nI s → s < 4 → b = nI t → t < 4 → ¬ bt s = 0 → ¬ bt t = 0 → ¬ bt s = bt t → ∀ g', GA o K hs lD lL tp wa z k bt sh hd (errL er 5) im g' → Off o 95 g g' → Q (some (.int (-1000000000 - 5))) g') (e1b : ∀ s t, a = nI s → s < 4 → b = nI t → t < 4 → ¬ bt s = 0 → ¬ bt t = 0 → bt s = bt t → (rnB (sh s) i n && rnB (sh t) j n) = false → ∀ g', GA o K hs lD lL tp wa z k bt sh hd (errL er 1) im g' → Off o 95 g g' → Q (some (.int (-1000000000 - 1))) g') (hP : ∀ s t i2 j2 n2, a = nI s → s < 4 → b = nI t → t < 4 → ¬ bt s = 0 → ¬ bt t = 0 → bt s = bt t → i = nI i2 → j = nI j2 → n = nI n2 → i2 + n2 ≤ (sh s).length → j2 + n2 ≤ (sh t).length → ∀ g', GA o K hs lD lL tp wa z k (upS bt t (bt t)) (upS sh t (mvL (sh t) (sh s) j2 i2 0 n2)) hd er im g' → Off o 95 g g' → Q (some (.int n)) g') : CV 6 0 0 mX11_move o [.int a, .int i, .int b, .int j, .int n] g Q := by
  refine ⟨q.V, ?_⟩
  refine ct_of (by decide) (fun _ _ => Nat.le_of_ble_eq_true rfl) ?_
  dsimp only [pad, ent]
  refine aw_P (P' := fun g' => GA o K hs lD lL tp wa z k bt sh hd er im g' ∧ Off o 95 g g') (fun g' e => by subst e; exact ⟨q, Off.rf _ _ _⟩) ?_
  by_cases hb : shB a = true
  · obtain ⟨s, hs1, hs4⟩ := sh_t hb
    by_cases hb2 : shB b = true
    · obtain ⟨t, ht1, ht4⟩ := sh_t hb2
      have l1 := (q.Sh s hs4).2.2.2.1
      have l2 := (q.Sh t ht4).2.2.2.1
      refine r_aload_n (pc := 0) dX11_move_0 rfl ?_
      refine r_iload_n (pc := 1) dX11_move_1 rfl ?_
      rw [hs1]
      refine r_Vr (pc := 2) (μ' := mX11_sheetOf) dX11_move_2 nX11_239 iX11_sheetOf vX11_sheetOf kX11_sheetOf rfl rfl (rr (by decide) rfl) rfl ⟨Nat.zero_le _, Nat.zero_le _⟩ (fun g' q => sheet_in q.1 hs4 q) ?_
      refine r_astore (pc := 5) dX11_move_5 (Nat.le_of_ble_eq_true rfl) rfl ?_
      dsimp only [lset]
      refine r_aload_n (pc := 7) dX11_move_7 rfl ?_
      refine r_iload_n (pc := 8) dX11_move_8 rfl ?_
      rw [ht1]
      refine r_Vr (pc := 9) (μ' := mX11_sheetOf) dX11_move_9 nX11_239 iX11_sheetOf vX11_sheetOf kX11_sheetOf rfl rfl (rr (by decide) rfl) rfl ⟨Nat.zero_le _, Nat.zero_le _⟩ (fun g' q => sheet_in q.1 ht4 q) ?_
      refine r_astore (pc := 12) dX11_move_12 (Nat.le_of_ble_eq_true rfl) rfl ?_
      dsimp only [lset]
      refine r_aload (pc := 14) dX11_move_14 rfl ?_
      refine r_ifnull (pc := 16) dX11_move_16 ?_
      refine r_aload (pc := 19) dX11_move_19 rfl ?_
      refine r_ifnonnull (pc := 21) 30 dX11_move_21 (by decide) ?_
      refine r_aload (pc := 30) dX11_move_30 rfl ?_
      refine r_Vi (pc := 32) (μ' := mX6_isMissing) dX11_move_32 nX11_243 iX6_isMissing vX6_isMissing kX6_isMissing rfl rfl (rr (by decide) rfl) rfl ⟨Nat.zero_le _, Nat.zero_le _⟩ (fun g' q => ct_Sheet_isMissing (q.1.Sh s hs4) q) ?_
      refine r_if_ne (pc := 35) 46 dX11_move_35 (by decide) (fun c35 => ?_) (fun c35 => ?_)
      · skip
        have k1 : bt s = 0 := of_decide_eq_true (b2i_n0.mp c35)
        have k12 : bt s = 0 ∨ bt t = 0 := Or.inl k1
        refine r_aload_n (pc := 46) dX11_move_46 rfl ?_
        refine r_iconst (pc := 47) (v := 2) dX11_move_47 (by decide) ?_
        refine r_Vi (pc := 48) (μ' := mX11_error) dX11_move_48 nX11_88 iX11_error vX11_error kX11_error rfl rfl (rr (by decide) rfl) rfl ⟨Nat.zero_le _, Nat.zero_le _⟩ (fun g' q => ct_G_error (P' := fun g2 => Q (some (.int (-1000000000 - 2))) g2) q.1 (fun g2 x y => e2 s t hs1 hs4 ht1 ht4 k12 g2 x (q.2.tr y))) ?_
        refine r_ireturn (pc := 51) (ty := .int) dX11_move_51 rfl rfl ⟨Nat.zero_le _, Nat.zero_le _⟩ (fun gE hg => ?_)
        exact hg
      · skip
        have k1 : ¬ bt s = 0 := of_decide_eq_false (b2i_0.mp c35)
        refine r_aload (pc := 38) dX11_move_38 rfl ?_
        refine r_Vi (pc := 40) (μ' := mX6_isMissing) dX11_move_40 nX11_243 iX6_isMissing vX6_isMissing kX6_isMissing rfl rfl (rr (by decide) rfl) rfl ⟨Nat.zero_le _, Nat.zero_le _⟩ (fun g' q => ct_Sheet_isMissing (q.1.Sh t ht4) q) ?_
        refine r_if_eq (pc := 43) 52 dX11_move_43 (by decide) (fun c43 => ?_) (fun c43 => ?_)
        · skip
          have k2 : ¬ bt t = 0 := of_decide_eq_false (b2i_0.mp c43)
          refine r_aload (pc := 52) dX11_move_52 rfl ?_
          refine r_Vi (pc := 54) (μ' := mX6_bits) dX11_move_54 nX11_337 iX6_bits vX6_bits kX6_bits rfl rfl (rr (by decide) rfl) rfl ⟨Nat.zero_le _, Nat.zero_le _⟩ (fun g' q => ct_Sheet_bits (q.1.Sh s hs4) q) ?_
          refine r_aload (pc := 57) dX11_move_57 rfl ?_
          refine r_Vi (pc := 59) (μ' := mX6_bits) dX11_move_59 nX11_337 iX6_bits vX6_bits kX6_bits rfl rfl (rr (by decide) rfl) rfl ⟨Nat.zero_le _, Nat.zero_le _⟩ (fun g' q => ct_Sheet_bits (q.1.Sh t ht4) q) ?_
          refine r_icmp_eq (pc := 62) 71 dX11_move_62 (by decide) (fun c62 => ?_) (fun c62 => ?_)
          · skip
            refine r_aload (pc := 71) dX11_move_71 rfl ?_
            refine r_getf (pc := 73) (k := 0) dX11_move_73 hX6 eX6 (by decide) fX11_246 (fun _ q => (q.1.Sh s hs4).o) rfl ?_
            refine r_iload_n (pc := 76) dX11_move_76 rfl ?_
            refine r_iload (pc := 77) dX11_move_77 rfl ?_
            refine r_Vi (pc := 79) (μ' := mX5_hasRun) dX11_move_79 nX11_340 iX5_hasRun vX5_hasRun kX5_hasRun rfl rfl (rr (by decide) rfl) rfl ⟨Nat.zero_le _, Nat.zero_le _⟩ (fun g' q => ct_Row_hasRun (q.1.Sh s hs4).2.2 q) ?_
            refine r_if_eq (pc := 82) 100 dX11_move_82 (by decide) (fun c82 => ?_) (fun c82 => ?_)
            · skip
              have k3 : rnB (sh s) i n = false := b2i_0.mp c82
              have k5 : (rnB (sh s) i n && rnB (sh t) j n) = false := by rw [k3]; rfl
              refine r_aload_n (pc := 100) dX11_move_100 rfl ?_
              refine r_iconst (pc := 101) (v := 1) dX11_move_101 (by decide) ?_
              refine r_Vi (pc := 102) (μ' := mX11_error) dX11_move_102 nX11_88 iX11_error vX11_error kX11_error rfl rfl (rr (by decide) rfl) rfl ⟨Nat.zero_le _, Nat.zero_le _⟩ (fun g' q => ct_G_error (P' := fun g2 => Q (some (.int (-1000000000 - 1))) g2) q.1 (fun g2 x y => e1b s t hs1 hs4 ht1 ht4 k1 k2 c62 k5 g2 x (q.2.tr y))) ?_
              refine r_ireturn (pc := 105) (ty := .int) dX11_move_105 rfl rfl ⟨Nat.zero_le _, Nat.zero_le _⟩ (fun gE hg => ?_)
              exact hg
            · skip
              have k3 : rnB (sh s) i n = true := b2i_n0.mp c82
              refine r_aload (pc := 85) dX11_move_85 rfl ?_
              refine r_getf (pc := 87) (k := 0) dX11_move_87 hX6 eX6 (by decide) fX11_246 (fun _ q => (q.1.Sh t ht4).o) rfl ?_
              refine r_iload (pc := 90) dX11_move_90 rfl ?_
              refine r_iload (pc := 92) dX11_move_92 rfl ?_
              refine r_Vi (pc := 94) (μ' := mX5_hasRun) dX11_move_94 nX11_340 iX5_hasRun vX5_hasRun kX5_hasRun rfl rfl (rr (by decide) rfl) rfl ⟨Nat.zero_le _, Nat.zero_le _⟩ (fun g' q => ct_Row_hasRun (q.1.Sh t ht4).2.2 q) ?_
              refine r_if_ne (pc := 97) 106 dX11_move_97 (by decide) (fun c97 => ?_) (fun c97 => ?_)
              · skip
                have k4 : rnB (sh t) j n = true := b2i_n0.mp c97
                have w1 := of_decide_eq_true k3
                have w2 := of_decide_eq_true k4
                obtain ⟨i2, hi2⟩ : ∃ i2, i2 = i.toInt.toNat := ⟨_, rfl⟩
                obtain ⟨j2, hj2⟩ : ∃ j2, j2 = j.toInt.toNat := ⟨_, rfl⟩
                obtain ⟨n2, hn2⟩ : ∃ n2, n2 = n.toInt.toNat := ⟨_, rfl⟩
                have ei : i = nI i2 := by rw [hi2]; exact (nI_tn (by omega) (by omega)).symm
                have ej : j = nI j2 := by rw [hj2]; exact (nI_tn (by omega) (by omega)).symm
                have en : n = nI n2 := by rw [hn2]; exact (nI_tn (by omega) (by omega)).symm
                refine r_aload (pc := 106) dX11_move_106 rfl ?_
                refine r_getf (pc := 108) (k := 0) dX11_move_108 hX6 eX6 (by decide) fX11_246 (fun _ q => (q.1.Sh t ht4).o) rfl ?_
                refine r_iload (pc := 111) dX11_move_111 rfl ?_
                refine r_aload (pc := 113) dX11_move_113 rfl ?_
                refine r_getf (pc := 115) (k := 0) dX11_move_115 hX6 eX6 (by decide) fX11_246 (fun _ q => (q.1.Sh s hs4).o) rfl ?_
                refine r_iload_n (pc := 118) dX11_move_118 rfl ?_
                refine r_iload (pc := 119) dX11_move_119 rfl ?_
                rw [show (Value.int i) = .int (nI i2) by rw [ei], show (Value.int j) = .int (nI j2) by rw [ej], show (Value.int n) = .int (nI n2) by rw [en]]
                refine r_Vv (pc := 121) (μ' := mX5_takeRun) dX11_move_121 nX11_343 iX5_takeRun vX5_takeRun kX5_takeRun rfl rfl (rr (by decide) rfl) rfl ⟨Nat.zero_le _, Nat.zero_le _⟩ (fun g' q => ct_Row_takeRun (l := sh t) (src := sh s) (cap := 40) (cap2 := 40) (P' := fun g2 => Q (some (.int (nI n2))) g2) (q.1.Sh t ht4).2.2 (by
                      by_cases c : s = t
                      · subst c; exact Or.inl ⟨rfl, rfl⟩
                      · exact Or.inr ⟨by omega, (q.1.Sh s hs4).2.2⟩) (by omega) (by omega) (by omega) (fun g2 x y => by rw [← en]; exact hP s t i2 j2 n2 hs1 hs4 ht1 ht4 k1 k2 c62 ei ej en (by omega) (by omega) g2 (q.1.setSh (q.1.Sh.put ht4 ((q.1.Sh t ht4).setL x y) (y.wide (by omega) (by omega))) (y.wide (by omega) (by omega))) (q.2.tr (y.wide (by omega) (by omega))))) ?_
                refine r_iload (pc := 124) dX11_move_124 rfl ?_
                refine r_ireturn (pc := 126) (ty := .int) dX11_move_126 rfl rfl ⟨Nat.zero_le _, Nat.zero_le _⟩ (fun gE hg => ?_)
                exact hg
              · skip
                have k4 : rnB (sh t) j n = false := b2i_0.mp c97
                have k5 : (rnB (sh s) i n && rnB (sh t) j n) = false := by rw [k3, k4]; rfl
                refine r_aload_n (pc := 100) dX11_move_100 rfl ?_
                refine r_iconst (pc := 101) (v := 1) dX11_move_101 (by decide) ?_
                refine r_Vi (pc := 102) (μ' := mX11_error) dX11_move_102 nX11_88 iX11_error vX11_error kX11_error rfl rfl (rr (by decide) rfl) rfl ⟨Nat.zero_le _, Nat.zero_le _⟩ (fun g' q => ct_G_error (P' := fun g2 => Q (some (.int (-1000000000 - 1))) g2) q.1 (fun g2 x y => e1b s t hs1 hs4 ht1 ht4 k1 k2 c62 k5 g2 x (q.2.tr y))) ?_
                refine r_ireturn (pc := 105) (ty := .int) dX11_move_105 rfl rfl ⟨Nat.zero_le _, Nat.zero_le _⟩ (fun gE hg => ?_)
                exact hg
          · skip
            refine r_aload_n (pc := 65) dX11_move_65 rfl ?_
            refine r_iconst (pc := 66) (v := 5) dX11_move_66 (by decide) ?_
            refine r_Vi (pc := 67) (μ' := mX11_error) dX11_move_67 nX11_88 iX11_error vX11_error kX11_error rfl rfl (rr (by decide) rfl) rfl ⟨Nat.zero_le _, Nat.zero_le _⟩ (fun g' q => ct_G_error (P' := fun g2 => Q (some (.int (-1000000000 - 5))) g2) q.1 (fun g2 x y => e5 s t hs1 hs4 ht1 ht4 k1 k2 c62 g2 x (q.2.tr y))) ?_
            refine r_ireturn (pc := 70) (ty := .int) dX11_move_70 rfl rfl ⟨Nat.zero_le _, Nat.zero_le _⟩ (fun gE hg => ?_)
            exact hg
        · skip
          have k2 : bt t = 0 := of_decide_eq_true (b2i_n0.mp c43)
          have k12 : bt s = 0 ∨ bt t = 0 := Or.inr k2
          refine r_aload_n (pc := 46) dX11_move_46 rfl ?_
          refine r_iconst (pc := 47) (v := 2) dX11_move_47 (by decide) ?_
          refine r_Vi (pc := 48) (μ' := mX11_error) dX11_move_48 nX11_88 iX11_error vX11_error kX11_error rfl rfl (rr (by decide) rfl) rfl ⟨Nat.zero_le _, Nat.zero_le _⟩ (fun g' q => ct_G_error (P' := fun g2 => Q (some (.int (-1000000000 - 2))) g2) q.1 (fun g2 x y => e2 s t hs1 hs4 ht1 ht4 k12 g2 x (q.2.tr y))) ?_
          refine r_ireturn (pc := 51) (ty := .int) dX11_move_51 rfl rfl ⟨Nat.zero_le _, Nat.zero_le _⟩ (fun gE hg => ?_)
          exact hg
    · have hb3 : shB b = false := by cases h : shB b <;> simp_all
      refine r_aload_n (pc := 0) dX11_move_0 rfl ?_
      refine r_iload_n (pc := 1) dX11_move_1 rfl ?_
      rw [hs1]
      refine r_Vr (pc := 2) (μ' := mX11_sheetOf) dX11_move_2 nX11_239 iX11_sheetOf vX11_sheetOf kX11_sheetOf rfl rfl (rr (by decide) rfl) rfl ⟨Nat.zero_le _, Nat.zero_le _⟩ (fun g' q => sheet_in q.1 hs4 q) ?_
      refine r_astore (pc := 5) dX11_move_5 (Nat.le_of_ble_eq_true rfl) rfl ?_
      dsimp only [lset]
      refine r_aload_n (pc := 7) dX11_move_7 rfl ?_
      refine r_iload_n (pc := 8) dX11_move_8 rfl ?_
      refine r_VrN (pc := 9) (μ' := mX11_sheetOf) dX11_move_9 nX11_239 iX11_sheetOf vX11_sheetOf kX11_sheetOf rfl rfl (rr (by decide) rfl) rfl ⟨Nat.zero_le _, Nat.zero_le _⟩ (fun g' q => sheet_out q.1 (of_decide_eq_false hb3) q) ?_
      refine r_astoreN (pc := 12) dX11_move_12 (Nat.le_of_ble_eq_true rfl) rfl ?_
      dsimp only [lset]
      refine r_aload (pc := 14) dX11_move_14 rfl ?_
      refine r_ifnull (pc := 16) dX11_move_16 ?_
      refine r_aloadN (pc := 19) dX11_move_19 rfl ?_
      refine r_ifnonnullN (pc := 21) dX11_move_21 ?_
      refine r_aload_n (pc := 24) dX11_move_24 rfl ?_
      refine r_iconst (pc := 25) (v := 1) dX11_move_25 (by decide) ?_
      refine r_Vi (pc := 26) (μ' := mX11_error) dX11_move_26 nX11_88 iX11_error vX11_error kX11_error rfl rfl (rr (by decide) rfl) rfl ⟨Nat.zero_le _, Nat.zero_le _⟩ (fun g' q => ct_G_error (P' := fun g2 => Q (some (.int (-1000000000 - 1))) g2) q.1 (fun g2 x y => e1 (by rw [hb, hb3]; rfl) g2 x (q.2.tr y))) ?_
      refine r_ireturn (pc := 29) (ty := .int) dX11_move_29 rfl rfl ⟨Nat.zero_le _, Nat.zero_le _⟩ (fun gE hg => ?_)
      exact hg
  · have hb2 : shB a = false := by cases h : shB a <;> simp_all
    by_cases hb4 : shB b = true
    · obtain ⟨t, ht1, ht4⟩ := sh_t hb4
      refine r_aload_n (pc := 0) dX11_move_0 rfl ?_
      refine r_iload_n (pc := 1) dX11_move_1 rfl ?_
      refine r_VrN (pc := 2) (μ' := mX11_sheetOf) dX11_move_2 nX11_239 iX11_sheetOf vX11_sheetOf kX11_sheetOf rfl rfl (rr (by decide) rfl) rfl ⟨Nat.zero_le _, Nat.zero_le _⟩ (fun g' q => sheet_out q.1 (of_decide_eq_false hb2) q) ?_
      refine r_astoreN (pc := 5) dX11_move_5 (Nat.le_of_ble_eq_true rfl) rfl ?_
      dsimp only [lset]
      refine r_aload_n (pc := 7) dX11_move_7 rfl ?_
      refine r_iload_n (pc := 8) dX11_move_8 rfl ?_
      rw [ht1]
      refine r_Vr (pc := 9) (μ' := mX11_sheetOf) dX11_move_9 nX11_239 iX11_sheetOf vX11_sheetOf kX11_sheetOf rfl rfl (rr (by decide) rfl) rfl ⟨Nat.zero_le _, Nat.zero_le _⟩ (fun g' q => sheet_in q.1 ht4 q) ?_
      refine r_astore (pc := 12) dX11_move_12 (Nat.le_of_ble_eq_true rfl) rfl ?_
      dsimp only [lset]
      refine r_aloadN (pc := 14) dX11_move_14 rfl ?_
      refine r_ifnullN (pc := 16) 24 dX11_move_16 (by decide) ?_
      refine r_aload_n (pc := 24) dX11_move_24 rfl ?_
      refine r_iconst (pc := 25) (v := 1) dX11_move_25 (by decide) ?_
      refine r_Vi (pc := 26) (μ' := mX11_error) dX11_move_26 nX11_88 iX11_error vX11_error kX11_error rfl rfl (rr (by decide) rfl) rfl ⟨Nat.zero_le _, Nat.zero_le _⟩ (fun g' q => ct_G_error (P' := fun g2 => Q (some (.int (-1000000000 - 1))) g2) q.1 (fun g2 x y => e1 (by rw [hb2]; rfl) g2 x (q.2.tr y))) ?_
      refine r_ireturn (pc := 29) (ty := .int) dX11_move_29 rfl rfl ⟨Nat.zero_le _, Nat.zero_le _⟩ (fun gE hg => ?_)
      exact hg
    · have hb3 : shB b = false := by cases h : shB b <;> simp_all
      refine r_aload_n (pc := 0) dX11_move_0 rfl ?_
      refine r_iload_n (pc := 1) dX11_move_1 rfl ?_
      refine r_VrN (pc := 2) (μ' := mX11_sheetOf) dX11_move_2 nX11_239 iX11_sheetOf vX11_sheetOf kX11_sheetOf rfl rfl (rr (by decide) rfl) rfl ⟨Nat.zero_le _, Nat.zero_le _⟩ (fun g' q => sheet_out q.1 (of_decide_eq_false hb2) q) ?_
      refine r_astoreN (pc := 5) dX11_move_5 (Nat.le_of_ble_eq_true rfl) rfl ?_
      dsimp only [lset]
      refine r_aload_n (pc := 7) dX11_move_7 rfl ?_
      refine r_iload_n (pc := 8) dX11_move_8 rfl ?_
      refine r_VrN (pc := 9) (μ' := mX11_sheetOf) dX11_move_9 nX11_239 iX11_sheetOf vX11_sheetOf kX11_sheetOf rfl rfl (rr (by decide) rfl) rfl ⟨Nat.zero_le _, Nat.zero_le _⟩ (fun g' q => sheet_out q.1 (of_decide_eq_false hb3) q) ?_
      refine r_astoreN (pc := 12) dX11_move_12 (Nat.le_of_ble_eq_true rfl) rfl ?_
      dsimp only [lset]
      refine r_aloadN (pc := 14) dX11_move_14 rfl ?_
      refine r_ifnullN (pc := 16) 24 dX11_move_16 (by decide) ?_
      refine r_aload_n (pc := 24) dX11_move_24 rfl ?_
      refine r_iconst (pc := 25) (v := 1) dX11_move_25 (by decide) ?_
      refine r_Vi (pc := 26) (μ' := mX11_error) dX11_move_26 nX11_88 iX11_error vX11_error kX11_error rfl rfl (rr (by decide) rfl) rfl ⟨Nat.zero_le _, Nat.zero_le _⟩ (fun g' q => ct_G_error (P' := fun g2 => Q (some (.int (-1000000000 - 1))) g2) q.1 (fun g2 x y => e1 (by rw [hb2]; rfl) g2 x (q.2.tr y))) ?_
      refine r_ireturn (pc := 29) (ty := .int) dX11_move_29 rfl rfl ⟨Nat.zero_le _, Nat.zero_le _⟩ (fun gE hg => ?_)
      exact hg
/-- numbers become WHITES of the first CELLS -/
def whK (K : CK) (l : List Int32) (n : Nat) : CK := match K with
  | (ro, st, mi, he, le, wh, si, ca, w, v) => (ro, st, mi, he, le, wh, si, ca, w, fun r s => if s < st ∧ r * st + s < n then (l.getD (r * st + s) 0).toInt.toNat else v r s)
def whN (K : CK) (l : List Int32) : Nat := stopAt (goodW l) (min l.length (kRo K * kSt K))
theorem stopAt_t {p : Nat → Bool} : ∀ {n j : Nat}, j < stopAt p n → p j = true
  | 0, j, h => absurd h (Nat.not_lt_zero j)
  | n + 1, j, h => by
    unfold stopAt at h
    split at h
    · rename_i c
      by_cases e : j = n
      · rw [e]; exact c.2
      · exact stopAt_t (n := n) (by rw [c.1]; omega)
    · exact stopAt_t h
theorem whK_tab {ro st n : Nat} {l : List Int32} {v : Nat → Nat → Nat} (hst : 0 < st) (hg : ∀ j, j < n → goodW l j = true) : mvL (tab ro st fun r s => nI (v r s)) l 0 0 0 n = tab ro st fun r s => nI (if s < st ∧ r * st + s < n then (l.getD (r * st + s) 0).toInt.toNat else v r s) := by
  refine list_ext (by rw [mvL_len, tab_len, tab_len]) (fun x hx => ?_)
  rw [mvL_len, tab_len] at hx
  rw [mvL_at (by rw [tab_len]; exact hx), tab_get hx, tab_get hx]
  have h1 : x % st < st := Nat.mod_lt _ hst
  have h2 : x / st * st + x % st = x := Nat.div_add_mod' x st
  rw [h2]
  by_cases c : x < n
  · rw [if_pos (by omega), if_pos ⟨h1, c⟩, Nat.zero_add, Nat.sub_zero]
    have := of_decide_eq_true (hg x c)
    exact (nI_tn (by omega) (by omega)).symm
  · rw [if_neg (by omega), if_neg (by omega)]
set_option maxHeartbeats 8000000 in
theorem ct_G_whites {a : Int32} (q : GA o K hs lD lL tp wa z k bt sh hd er im g) (ok : KOk K) (e1 : shB a = false → ∀ g', GA o K hs lD lL tp wa z k bt sh hd (errL er 1) im g' → Off o 95 g g' → Q (some (.int (-1000000000 - 1))) g') (e2 : ∀ j, a = nI j → j < 4 → bt j = 0 → ∀ g', GA o K hs lD lL tp wa z k bt sh hd (errL er 2) im g' → Off o 95 g g' → Q (some (.int (-1000000000 - 2))) g') (hP : ∀ j, a = nI j → j < 4 → ¬ bt j = 0 → ∀ g', GA o (whK K (sh j) (whN K (sh j))) hs lD lL tp wa z k bt sh hd er im g' → Off o 95 g g' → Q (some (.int (nI (whN K (sh j))))) g') : CV 6 0 0 mX11_whites o [.int a] g Q := by
  refine ⟨q.V, ?_⟩
  refine ct_of (by decide) (fun _ _ => Nat.le_of_ble_eq_true rfl) ?_
  dsimp only [pad, ent]
  obtain ⟨ro, st, mi, he, le, wh, si, ca, w, v⟩ := K
  have hst : 1 ≤ st ∧ st ≤ 6 := ok.2.1
  refine aw_P (P' := fun g' => GA o (ro, st, mi, he, le, wh, si, ca, w, v) hs lD lL tp wa z k bt sh hd er im g' ∧ Off o 95 g g') (fun g' e => by subst e; exact ⟨q, Off.rf _ _ _⟩) ?_
  by_cases hb : shB a = true
  · obtain ⟨j, hj, hj4⟩ := sh_t hb
    refine r_aload_n (pc := 0) dX11_whites_0 rfl ?_
    refine r_iload_n (pc := 1) dX11_whites_1 rfl ?_
    rw [hj]
    refine r_Vr (pc := 2) (μ' := mX11_sheetOf) dX11_whites_2 nX11_239 iX11_sheetOf vX11_sheetOf kX11_sheetOf rfl rfl (rr (by decide) rfl) rfl ⟨Nat.zero_le _, Nat.zero_le _⟩ (fun g' q => sheet_in q.1 hj4 q) ?_
    refine r_astore_n (pc := 5) dX11_whites_5 rfl (Nat.le_of_ble_eq_true rfl) rfl ?_
    dsimp only [lset]
    refine r_aload_n (pc := 6) dX11_whites_6 rfl ?_
    refine r_ifnonnull (pc := 7) 16 dX11_whites_7 (by decide) ?_
    refine r_aload_n (pc := 16) dX11_whites_16 rfl ?_
    refine r_Vi (pc := 17) (μ' := mX6_isMissing) dX11_whites_17 nX11_243 iX6_isMissing vX6_isMissing kX6_isMissing rfl rfl (rr (by decide) rfl) rfl ⟨Nat.zero_le _, Nat.zero_le _⟩ (fun g' q => ct_Sheet_isMissing (q.1.Sh j hj4) q) ?_
    refine r_if_eq (pc := 20) 29 dX11_whites_20 (by decide) (fun c20 => ?_) (fun c20 => ?_)
    · skip
      have k3 : ¬ bt j = 0 := of_decide_eq_false (b2i_0.mp c20)
      refine r_aload_n (pc := 29) dX11_whites_29 rfl ?_
      refine r_getf (pc := 30) (k := 0) dX11_whites_30 hX11 eX11 (by decide) fX11_10 (fun _ q => q.1.oo) rfl ?_
      refine r_getf (pc := 33) (k := 0) dX11_whites_33 hX7 eX7 (by decide) fX11_92 (fun _ q => q.1.s) rfl ?_
      refine r_aload_n (pc := 36) dX11_whites_36 rfl ?_
      refine r_getf (pc := 37) (k := 0) dX11_whites_37 hX6 eX6 (by decide) fX11_246 (fun _ q => (q.1.Sh j hj4).o) rfl ?_
      refine r_Vi (pc := 40) (μ' := mX0_whiten) dX11_whites_40 nX11_347 iX0_whiten vX0_whiten kX0_whiten rfl rfl (rr (by decide) rfl) rfl ⟨Nat.zero_le _, Nat.zero_le _⟩ (fun g' q => ct_Ceil_whiten (P' := fun g2 => Q (some (.int (nI (stopAt (goodW (sh j)) (min (sh j).length (tab ro st fun r s => nI (v r s)).length))))) g2) (q.1.Ci : CeilI _ _ _ _ _ _ _ _ _ _ _ _) (q.1.Sh j hj4).2.2 (by omega) (fun g2 x y => by
            have hN : stopAt (goodW (sh j)) (min (sh j).length (tab ro st fun r s => nI (v r s)).length) = whN (ro, st, mi, he, le, wh, si, ca, w, v) (sh j) := by rw [tab_len]; rfl
            rw [hN]
            have x2 : CeilK (o + 1 + 1) (whK (ro, st, mi, he, le, wh, si, ca, w, v) (sh j) (whN (ro, st, mi, he, le, wh, si, ca, w, v) (sh j))) g2 := by
              have x := x
              rw [hN] at x
              have e := whK_tab (ro := ro) (v := v) (n := whN (ro, st, mi, he, le, wh, si, ca, w, v) (sh j)) (l := sh j) (show 0 < st by omega) (fun j2 h2 => stopAt_t h2)
              unfold CeilK whK
              dsimp only at x ⊢
              rw [e] at x
              exact x
            exact hP j hj hj4 k3 g2 (q.1.setC x2 y) (q.2.tr (y.wide (by omega) (by omega))))) ?_
      refine r_ireturn (pc := 43) (ty := .int) dX11_whites_43 rfl rfl ⟨Nat.zero_le _, Nat.zero_le _⟩ (fun gE hg => ?_)
      exact hg
    · skip
      have k3 : bt j = 0 := of_decide_eq_true (b2i_n0.mp c20)
      refine r_aload_n (pc := 23) dX11_whites_23 rfl ?_
      refine r_iconst (pc := 24) (v := 2) dX11_whites_24 (by decide) ?_
      refine r_Vi (pc := 25) (μ' := mX11_error) dX11_whites_25 nX11_88 iX11_error vX11_error kX11_error rfl rfl (rr (by decide) rfl) rfl ⟨Nat.zero_le _, Nat.zero_le _⟩ (fun g' q => ct_G_error (P' := fun g2 => Q (some (.int (-1000000000 - 2))) g2) q.1 (fun g2 x y => e2 j hj hj4 k3 g2 x (q.2.tr y))) ?_
      refine r_ireturn (pc := 28) (ty := .int) dX11_whites_28 rfl rfl ⟨Nat.zero_le _, Nat.zero_le _⟩ (fun gE hg => ?_)
      exact hg
  · have hb2 : shB a = false := by cases h : shB a <;> simp_all
    refine r_aload_n (pc := 0) dX11_whites_0 rfl ?_
    refine r_iload_n (pc := 1) dX11_whites_1 rfl ?_
    refine r_VrN (pc := 2) (μ' := mX11_sheetOf) dX11_whites_2 nX11_239 iX11_sheetOf vX11_sheetOf kX11_sheetOf rfl rfl (rr (by decide) rfl) rfl ⟨Nat.zero_le _, Nat.zero_le _⟩ (fun g' q => sheet_out q.1 (of_decide_eq_false hb2) q) ?_
    refine r_astore_nN (pc := 5) dX11_whites_5 rfl (Nat.le_of_ble_eq_true rfl) rfl ?_
    dsimp only [lset]
    refine r_aload_nN (pc := 6) dX11_whites_6 rfl ?_
    refine r_ifnonnullN (pc := 7) dX11_whites_7 ?_
    refine r_aload_n (pc := 10) dX11_whites_10 rfl ?_
    refine r_iconst (pc := 11) (v := 1) dX11_whites_11 (by decide) ?_
    refine r_Vi (pc := 12) (μ' := mX11_error) dX11_whites_12 nX11_88 iX11_error vX11_error kX11_error rfl rfl (rr (by decide) rfl) rfl ⟨Nat.zero_le _, Nat.zero_le _⟩ (fun g' q => ct_G_error (P' := fun g2 => Q (some (.int (-1000000000 - 1))) g2) q.1 (fun g2 x y => e1 hb2 g2 x (q.2.tr y))) ?_
    refine r_ireturn (pc := 15) (ty := .int) dX11_whites_15 rfl rfl ⟨Nat.zero_le _, Nat.zero_le _⟩ (fun gE hg => ?_)
    exact hg
end MethE
