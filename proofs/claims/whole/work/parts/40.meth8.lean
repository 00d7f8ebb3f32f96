/-! THE WHOLE (OneGoCeiling): done -/
section Meth8
variable {o : Nat} {K K9 R : CK} {hs hs9 : List (Nat × Nat)} {lD lL tp wa hd er sp pl bs sb sw sx : List Int32} {z im be : Int32} {k : NS} {bt : Nat → Int32} {sh : Nat → List Int32} {h g : AH} {Q : Option Value → AH → Prop}
set_option maxHeartbeats 8000000 in
theorem ct_G_done {a b : Int32} (q : GA o K hs lD lL tp wa z k bt sh hd er im g) (ok : KOk K) (tb : TB K 9999 9999) (hok : HOk hs) (e1 : (hdB hs a && shB b) = false → ∀ g', GA o K hs lD lL tp wa z k bt sh hd (errL er 1) im g' → Off o 95 g g' → Q (some (.int (-1000000000 - 1))) g') (e2 : hdB hs a = true → ∀ j, b = nI j → j < 4 → bt j = 0 → ∀ g', GA o K hs lD lL tp wa z k bt sh hd (errL er 2) im g' → Off o 95 g g' → Q (some (.int (-1000000000 - 2))) g')
    (e3 : hdB hs a = true → ∀ j, b = nI j → j < 4 → ¬ bt j = 0 → ¬ ((sh j).length = kSt K ∧ (tkO (sh j) (kSt K) (kSt K)).isSome = true) → ∀ g', GA o K hs lD lL tp wa z k bt sh hd (errL er 3) im g' → Off o 95 g g' → Q (some (.int (-1000000000 - 3))) g')
    (hP : ∀ i j pl, a = nI i → i < hs.length → b = nI j → j < 4 → ¬ bt j = 0 → (sh j).length = kSt K → tkO (sh j) (kSt K) (kSt K) = some pl → ∀ g', GA o K hs lD lL tp wa z k bt sh hd er im g' → Off o 95 g g' → Q (some (.int (nI (soN (thR K hs i) lD lL (plN pl) (kSt (thR K hs i) - 1))))) g') : CV 10 0 0 mX11_done o [.int a, .int b] g Q := by
  refine ⟨q.V, ?_⟩
  refine ct_of (by decide) (fun _ _ => Nat.le_of_ble_eq_true rfl) ?_
  dsimp only [pad, ent]
  have hst : 1 ≤ kSt K ∧ kSt K ≤ 6 := ok.2.1
  refine aw_P (P' := fun g' => GA o K hs lD lL tp wa z k bt sh hd er im g' ∧ Off o 95 g g') (fun g' e => by subst e; exact ⟨q, Off.rf _ _ _⟩) ?_
  by_cases hb : 0 ≤ b.toInt ∧ b.toInt < 4
  · have kb : shB b = true := decide_eq_true hb
    obtain ⟨j, hj, hj4⟩ : ∃ j, b = nI j ∧ j < 4 := ⟨b.toInt.toNat, (nI_tn (by omega) (by omega)).symm, by omega⟩
    refine r_aload_n (pc := 0) dX11_done_0 rfl ?_
    refine r_iload_n (pc := 1) dX11_done_1 rfl ?_
    rw [hj]
    refine r_Vr (pc := 2) (μ' := mX11_sheetOf) dX11_done_2 nX11_239 iX11_sheetOf vX11_sheetOf kX11_sheetOf rfl rfl (rr (by omega) rfl) rfl ⟨Nat.zero_le _, Nat.zero_le _⟩ (fun g' q => sheet_in q.1 hj4 q) ?_
    refine r_astore_n (pc := 5) dX11_done_5 rfl (Nat.le_of_ble_eq_true rfl) rfl ?_
    dsimp only [lset]
    refine r_aload_n (pc := 6) dX11_done_6 rfl ?_
    refine r_getf (pc := 7) (k := 0) dX11_done_7 hX11 eX11 (by decide) fX11_10 (fun _ q => q.1.oo) rfl ?_
    refine r_getf (pc := 10) (k := 1) dX11_done_10 hX7 eX7 (by decide) fX11_140 (fun _ q => q.1.s) rfl ?_
    refine r_iload_n (pc := 13) dX11_done_13 rfl ?_
    refine r_Vi (pc := 14) (μ' := mX1_has) dX11_done_14 nX11_153 iX1_has vX1_has kX1_has rfl rfl (rr (by omega) rfl) rfl ⟨Nat.zero_le _, Nat.zero_le _⟩ (fun g' q => ct_Crew_has q.1.W q) ?_
    refine r_if_eq (pc := 17) 24 dX11_done_17 (by decide) (fun c17 => ?_) (fun c17 => ?_)
    · skip
      have k1 : hdB hs a = false := b2i_0.mp c17
      refine r_aload_n (pc := 24) dX11_done_24 rfl ?_
      refine r_iconst (pc := 25) (v := 1) dX11_done_25 (by decide) ?_
      refine r_Vi (pc := 26) (μ' := mX11_error) dX11_done_26 nX11_88 iX11_error vX11_error kX11_error rfl rfl (rr (by omega) rfl) rfl ⟨Nat.zero_le _, Nat.zero_le _⟩ (fun g' q => ct_G_error (P' := fun g2 => Q (some (.int (-1000000000 - 1))) g2) q.1 (fun g2 x y => e1 (by rw [k1]; rfl) g2 x (q.2.tr y))) ?_
      refine r_ireturn (pc := 29) (ty := .int) dX11_done_29 rfl rfl ⟨Nat.zero_le _, Nat.zero_le _⟩ (fun gE hg => ?_)
      exact hg
    · skip
      have k1 : hdB hs a = true := b2i_n0.mp c17
      obtain ⟨i, hi, hi2⟩ := hd_t k1 hok
      obtain ⟨r1, r2, r3, r4, r5⟩ := thR_ok ok tb hok hi2
      refine r_aload_n (pc := 20) dX11_done_20 rfl ?_
      refine r_ifnonnull (pc := 21) 30 dX11_done_21 (by decide) ?_
      refine r_aload_n (pc := 30) dX11_done_30 rfl ?_
      refine r_Vi (pc := 31) (μ' := mX6_isMissing) dX11_done_31 nX11_243 iX6_isMissing vX6_isMissing kX6_isMissing rfl rfl (rr (by omega) rfl) rfl ⟨Nat.zero_le _, Nat.zero_le _⟩ (fun g' q => ct_Sheet_isMissing (q.1.Sh j hj4) q) ?_
      refine r_if_eq (pc := 34) 43 dX11_done_34 (by decide) (fun c34 => ?_) (fun c34 => ?_)
      · skip
        have k3 : ¬ bt j = 0 := of_decide_eq_false (b2i_0.mp c34)
        refine r_aload_n (pc := 43) dX11_done_43 rfl ?_
        refine r_getf (pc := 44) (k := 4) dX11_done_44 hX11 eX11 (by decide) fX11_47 (fun _ q => q.1.oo) rfl ?_
        refine r_aload_n (pc := 47) dX11_done_47 rfl ?_
        refine r_getf (pc := 48) (k := 0) dX11_done_48 hX6 eX6 (by decide) fX11_246 (fun _ q => (q.1.Sh j hj4).o) rfl ?_
        refine r_aload_n (pc := 51) dX11_done_51 rfl ?_
        refine r_getf (pc := 52) (k := 0) dX11_done_52 hX11 eX11 (by decide) fX11_10 (fun _ q => q.1.oo) rfl ?_
        refine r_getf (pc := 55) (k := 0) dX11_done_55 hX7 eX7 (by decide) fX11_92 (fun _ q => q.1.s) rfl ?_
        refine r_Vi (pc := 58) (μ' := mX0_strips) dX11_done_58 nX11_249 iX0_strips vX0_strips kX0_strips rfl rfl (rr (by omega) rfl) rfl ⟨Nat.zero_le _, Nat.zero_le _⟩ (fun g' q => ct_Ceil_strips (q.1.Ci : CeilI _ _ _ _ _ _ _ _ _ _ _ _) q) ?_
        refine aw_P (P' := fun g' => ∃ (be : Int32) (K0 : CK) (sp pl bs sb sw sx : List Int32), GT o K hs lD lL tp wa z k bt sh hd er im be K0 sp pl bs sb sw sx g' ∧ Off o 95 g g') (fun g' q => by obtain ⟨be, K0, sp, pl, bs, sb, sw, sx, t⟩ := q.1.Th; exact ⟨be, K0, sp, pl, bs, sb, sw, sx, ⟨q.1, t⟩, q.2⟩) ?_
        refine aw_ex fun be => aw_ex fun K0 => aw_ex fun sp => aw_ex fun pl => aw_ex fun bs => aw_ex fun sb => aw_ex fun sw => aw_ex fun sx => ?_
        refine r_Vi (pc := 61) (μ' := mX9_takeOrder) dX11_done_61 nX11_252 iX9_takeOrder vX9_takeOrder kX9_takeOrder rfl rfl (rr (by omega) rfl) rfl ⟨Nat.zero_le _, Nat.zero_le _⟩ (fun g' q => ct_Th_takeOrder (n := kSt K) (P' := fun g2 => ∃ pl2, ((sh j).length = kSt K → ∀ l, tkO (sh j) (kSt K) (kSt K) = some l → pl2 = l) ∧ (GT o K hs lD lL tp wa z k bt sh hd er im be K0 sp pl2 bs sb sw sx g2 ∧ Off o 95 g g2)) q.1.2 (q.1.1.Sh j hj4).2.2 (by omega) (by omega) (fun g2 pl2 hc x y => ⟨pl2, hc, ⟨q.1.1.setTh x.any y, x⟩, q.2.tr (y.wide (by omega) (by omega))⟩)) ?_
        refine aw_ex fun pl2 => aw_pr fun hc => ?_
        refine r_if_ne (pc := 64) 73 dX11_done_64 (by decide) (fun c64 => ?_) (fun c64 => ?_)
        · skip
          have k4 := of_decide_eq_true (b2i_n0.mp c64)
          obtain ⟨l, hl⟩ := Option.isSome_iff_exists.mp k4.2
          have hl2 : tkO (sh j) (kSt K) (kSt K) = some pl2 := by rw [hc k4.1 l hl]; exact hl
          refine r_aload_n (pc := 73) dX11_done_73 rfl ?_
          refine r_getf (pc := 74) (k := 4) dX11_done_74 hX11 eX11 (by decide) fX11_47 (fun _ q => q.1.oo) rfl ?_
          refine r_aload_n (pc := 77) dX11_done_77 rfl ?_
          refine r_getf (pc := 78) (k := 0) dX11_done_78 hX11 eX11 (by decide) fX11_10 (fun _ q => q.1.oo) rfl ?_
          refine r_iload_n (pc := 81) dX11_done_81 rfl ?_
          rw [hi]
          refine r_Vv (pc := 82) (μ' := mX9_rollAll) dX11_done_82 nX11_256 iX9_rollAll vX9_rollAll kX9_rollAll rfl rfl (rr (by omega) rfl) rfl ⟨Nat.zero_le _, Nat.zero_le _⟩ (fun g' q => ct_Th_rollAll2 (P' := fun g2 => GT o K hs lD lL tp wa z k bt sh hd er im be (thR K hs i) sp pl2 bs sb sw sx g2 ∧ Off o 95 g g2) q.1.2 q.1.1.St (by omega) ok hok hi2 (fun g2 x y => ⟨⟨q.1.1.setTh x.any y, x⟩, q.2.tr (y.wide (by omega) (by omega))⟩)) ?_
          refine r_aload_n (pc := 85) dX11_done_85 rfl ?_
          refine r_getf (pc := 86) (k := 4) dX11_done_86 hX11 eX11 (by decide) fX11_47 (fun _ q => q.1.oo) rfl ?_
          refine r_Vi (pc := 89) (μ' := mX9_seenByOrder) dX11_done_89 nX11_260 iX9_seenByOrder vX9_seenByOrder kX9_seenByOrder rfl rfl (rr (by omega) rfl) rfl ⟨Nat.zero_le _, Nat.zero_le _⟩ (fun g' q => ct_Th_seenByOrder (p := plN pl2) (P' := fun g2 => GA o K hs lD lL tp wa z k bt sh hd er im g2 ∧ Off o 95 g g2) q.1.te r1 r5 (by rw [r3]; exact tkO_full (by omega) hl2) (fun g2 x y => ⟨(GA_tho q.1.1 x (eS y)).1, q.2.tr (GA_tho q.1.1 x (eS y)).2⟩)) ?_
          refine r_ireturn (pc := 92) (ty := .int) dX11_done_92 rfl rfl ⟨Nat.zero_le _, Nat.zero_le _⟩ (fun gE hg => ?_)
          exact hP i j pl2 hi hi2 hj hj4 k3 k4.1 hl2 _ hg.1 hg.2
        · skip
          have k4 := of_decide_eq_false (b2i_0.mp c64)
          refine r_aload_n (pc := 67) dX11_done_67 rfl ?_
          refine r_iconst (pc := 68) (v := 3) dX11_done_68 (by decide) ?_
          refine r_Vi (pc := 69) (μ' := mX11_error) dX11_done_69 nX11_88 iX11_error vX11_error kX11_error rfl rfl (rr (by omega) rfl) rfl ⟨Nat.zero_le _, Nat.zero_le _⟩ (fun g' q => ct_G_error (P' := fun g2 => Q (some (.int (-1000000000 - 3))) g2) q.1.1 (fun g2 x y => e3 k1 j hj hj4 k3 k4 g2 x (q.2.tr y))) ?_
          refine r_ireturn (pc := 72) (ty := .int) dX11_done_72 rfl rfl ⟨Nat.zero_le _, Nat.zero_le _⟩ (fun gE hg => ?_)
          exact hg
      · skip
        have k3 : bt j = 0 := of_decide_eq_true (b2i_n0.mp c34)
        refine r_aload_n (pc := 37) dX11_done_37 rfl ?_
        refine r_iconst (pc := 38) (v := 2) dX11_done_38 (by decide) ?_
        refine r_Vi (pc := 39) (μ' := mX11_error) dX11_done_39 nX11_88 iX11_error vX11_error kX11_error rfl rfl (rr (by omega) rfl) rfl ⟨Nat.zero_le _, Nat.zero_le _⟩ (fun g' q => ct_G_error (P' := fun g2 => Q (some (.int (-1000000000 - 2))) g2) q.1 (fun g2 x y => e2 k1 j hj hj4 k3 g2 x (q.2.tr y))) ?_
        refine r_ireturn (pc := 42) (ty := .int) dX11_done_42 rfl rfl ⟨Nat.zero_le _, Nat.zero_le _⟩ (fun gE hg => ?_)
        exact hg
  · have kb : shB b = false := decide_eq_false hb
    refine r_aload_n (pc := 0) dX11_done_0 rfl ?_
    refine r_iload_n (pc := 1) dX11_done_1 rfl ?_
    refine r_VrN (pc := 2) (μ' := mX11_sheetOf) dX11_done_2 nX11_239 iX11_sheetOf vX11_sheetOf kX11_sheetOf rfl rfl (rr (by omega) rfl) rfl ⟨Nat.zero_le _, Nat.zero_le _⟩ (fun g' q => sheet_out q.1 hb q) ?_
    refine r_astore_nN (pc := 5) dX11_done_5 rfl (Nat.le_of_ble_eq_true rfl) rfl ?_
    dsimp only [lset]
    refine r_aload_n (pc := 6) dX11_done_6 rfl ?_
    refine r_getf (pc := 7) (k := 0) dX11_done_7 hX11 eX11 (by decide) fX11_10 (fun _ q => q.1.oo) rfl ?_
    refine r_getf (pc := 10) (k := 1) dX11_done_10 hX7 eX7 (by decide) fX11_140 (fun _ q => q.1.s) rfl ?_
    refine r_iload_n (pc := 13) dX11_done_13 rfl ?_
    refine r_Vi (pc := 14) (μ' := mX1_has) dX11_done_14 nX11_153 iX1_has vX1_has kX1_has rfl rfl (rr (by omega) rfl) rfl ⟨Nat.zero_le _, Nat.zero_le _⟩ (fun g' q => ct_Crew_has q.1.W q) ?_
    refine r_if_eq (pc := 17) 24 dX11_done_17 (by decide) (fun c17 => ?_) (fun c17 => ?_)
    · skip
      have k1 : hdB hs a = false := b2i_0.mp c17
      refine r_aload_n (pc := 24) dX11_done_24 rfl ?_
      refine r_iconst (pc := 25) (v := 1) dX11_done_25 (by decide) ?_
      refine r_Vi (pc := 26) (μ' := mX11_error) dX11_done_26 nX11_88 iX11_error vX11_error kX11_error rfl rfl (rr (by omega) rfl) rfl ⟨Nat.zero_le _, Nat.zero_le _⟩ (fun g' q => ct_G_error (P' := fun g2 => Q (some (.int (-1000000000 - 1))) g2) q.1 (fun g2 x y => e1 (by first | (rw [k1]; rfl) | (rw [k1, kb]; rfl)) g2 x (q.2.tr y))) ?_
      refine r_ireturn (pc := 29) (ty := .int) dX11_done_29 rfl rfl ⟨Nat.zero_le _, Nat.zero_le _⟩ (fun gE hg => ?_)
      exact hg
    · skip
      have k1 : hdB hs a = true := b2i_n0.mp c17
      refine r_aload_nN (pc := 20) dX11_done_20 rfl ?_
      refine r_ifnonnullN (pc := 21) dX11_done_21 ?_
      refine r_aload_n (pc := 24) dX11_done_24 rfl ?_
      refine r_iconst (pc := 25) (v := 1) dX11_done_25 (by decide) ?_
      refine r_Vi (pc := 26) (μ' := mX11_error) dX11_done_26 nX11_88 iX11_error vX11_error kX11_error rfl rfl (rr (by omega) rfl) rfl ⟨Nat.zero_le _, Nat.zero_le _⟩ (fun g' q => ct_G_error (P' := fun g2 => Q (some (.int (-1000000000 - 1))) g2) q.1 (fun g2 x y => e1 (by first | (rw [k1]; rfl) | (rw [k1, kb]; rfl)) g2 x (q.2.tr y))) ?_
      refine r_ireturn (pc := 29) (ty := .int) dX11_done_29 rfl rfl ⟨Nat.zero_le _, Nat.zero_le _⟩ (fun gE hg => ?_)
      exact hg
end Meth8
