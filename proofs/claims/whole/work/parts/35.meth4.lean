/-! THE WHOLE (OneGoCeiling): of a hand, SEAMS, minutes, ROLL -/
section Meth4
variable {o : Nat} {K K9 : CK} {hs hs9 : List (Nat × Nat)} {lD lL tp wa hd er : List Int32} {z im : Int32} {k : NS} {bt : Nat → Int32} {sh : Nat → List Int32} {h g : AH} {Q : Option Value → AH → Prop}
def ofHI (kd m b : Int32) : Int32 := if b = 0 then kd else if b = 1 then m else if b = 2 then paceI kd m 0 else if b = 3 then paceI kd m 3 else if b = 4 then loadI kd m else usesI kd m
theorem GA.ec (q : GA o K hs lD lL tp wa z k bt sh hd er im g) : EC (o + 54) (o + 12) (o + 1 + 1) lD lL K g := ⟨q.Ey, q.Ci, by omega, by omega⟩
theorem eyO {g h : AH} (e : OffS (eyS (o + 54) (o + 12)) h g) : Off o 95 h g := ⟨e.1, fun j hj => e.2 j (fun x => by unfold eyS at x; omega)⟩
set_option maxHeartbeats 8000000 in
theorem ct_G_ofHand {a b : Int32} (q : GA o K hs lD lL tp wa z k bt sh hd er im g) (ok : HOk hs) (e1 : (hdB hs a && wiB b 0 5) = false → ∀ g', GA o K hs lD lL tp wa z k bt sh hd (errL er 1) im g' → Off o 95 g g' → Q (some (.int (-1000000000 - 1))) g') (hP : ∀ i, a = nI i → i < hs.length → wiB b 0 5 = true → ∀ g', GA o K hs lD lL tp wa z k bt sh hd er im g' → Off o 95 g g' → Q (some (.int (ofHI (nI (hKd hs i)) (nI (hMn hs i)) b))) g') : CV 4 0 0 mX11_ofHand o [.int a, .int b] g Q := by
  refine ⟨q.V, ?_⟩
  refine ct_of (by decide) (fun _ _ => Nat.le_of_ble_eq_true rfl) ?_
  dsimp only [pad, ent]
  have hlen := ok.1
  refine aw_P (P' := fun g' => GA o K hs lD lL tp wa z k bt sh hd er im g' ∧ Off o 95 g g') (fun g' e => by subst e; exact ⟨q, Off.rf _ _ _⟩) ?_
  refine r_aload_n (pc := 0) dX11_ofHand_0 rfl ?_
  refine r_getf (pc := 1) (k := 0) dX11_ofHand_1 hX11 eX11 (by decide) fX11_10 (fun _ q => q.1.oo) rfl ?_
  refine r_getf (pc := 4) (k := 1) dX11_ofHand_4 hX7 eX7 (by decide) fX11_140 (fun _ q => q.1.s) rfl ?_
  refine r_iload_n (pc := 7) dX11_ofHand_7 rfl ?_
  refine r_Vi (pc := 8) (μ' := mX1_has) dX11_ofHand_8 nX11_153 iX1_has vX1_has kX1_has rfl rfl (rr (by decide) rfl) rfl ⟨Nat.zero_le _, Nat.zero_le _⟩ (fun g' q => ct_Crew_has q.1.W q) ?_
  refine r_if_eq (pc := 11) 23 dX11_ofHand_11 (by decide) (fun c11 => ?_) (fun c11 => ?_)
  · skip
    have k1 : hdB hs a = false := b2i_0.mp c11
    refine r_aload_n (pc := 23) dX11_ofHand_23 rfl ?_
    refine r_iconst (pc := 24) (v := 1) dX11_ofHand_24 (by decide) ?_
    refine r_Vi (pc := 25) (μ' := mX11_error) dX11_ofHand_25 nX11_88 iX11_error vX11_error kX11_error rfl rfl (rr (by decide) rfl) rfl ⟨Nat.zero_le _, Nat.zero_le _⟩ (fun g' q => ct_G_error (P' := fun g2 => Q (some (.int (-1000000000 - 1))) g2) q.1 (fun g2 a b => e1 (by first | (rw [k1]; rfl) | (rw [k1, k2]; rfl)) g2 a (q.2.tr b))) ?_
    refine r_ireturn (pc := 28) (ty := .int) dX11_ofHand_28 rfl rfl ⟨Nat.zero_le _, Nat.zero_le _⟩ (fun gE hg => ?_)
    exact hg
  · skip
    have k1 : hdB hs a = true := b2i_n0.mp c11
    refine r_iload_n (pc := 14) dX11_ofHand_14 rfl ?_
    refine r_iconst (pc := 15) (v := 0) dX11_ofHand_15 (by decide) ?_
    refine r_iconst (pc := 16) (v := 5) dX11_ofHand_16 (by decide) ?_
    refine r_Sp (pc := 17) (μ' := mX11_within) dX11_ofHand_17 nX11_84 sX11_within kX11_within rfl rfl (rr (by decide) rfl) rfl ⟨Nat.zero_le _, Nat.zero_le _⟩ (fun h => ct_G_within h) ?_
    refine r_if_ne (pc := 20) 29 dX11_ofHand_20 (by decide) (fun c20 => ?_) (fun c20 => ?_)
    · skip
      have k2 := b2i_n0.mp c20
      obtain ⟨i, hi, hi2⟩ := hd_t k1 ok
      have h7 := hP i hi hi2 k2
      refine r_aload_n (pc := 29) dX11_ofHand_29 rfl ?_
      refine r_getf (pc := 30) (k := 0) dX11_ofHand_30 hX11 eX11 (by decide) fX11_10 (fun _ q => q.1.oo) rfl ?_
      refine r_getf (pc := 33) (k := 1) dX11_ofHand_33 hX7 eX7 (by decide) fX11_140 (fun _ q => q.1.s) rfl ?_
      refine r_iload_n (pc := 36) dX11_ofHand_36 rfl ?_
      refine r_Vi (pc := 37) (μ' := mX1_kindOf) dX11_ofHand_37 nX11_156 iX1_kindOf vX1_kindOf kX1_kindOf rfl rfl (rr (by decide) rfl) rfl ⟨Nat.zero_le _, Nat.zero_le _⟩ (fun g' q => ct_Crew_kindOf q.1.W q) ?_
      rw [hi, hs_k hi2 hlen]
      refine r_istore_n (pc := 40) dX11_ofHand_40 rfl (Nat.le_of_ble_eq_true rfl) rfl ?_
      dsimp only [lset]
      refine r_aload_n (pc := 41) dX11_ofHand_41 rfl ?_
      refine r_getf (pc := 42) (k := 0) dX11_ofHand_42 hX11 eX11 (by decide) fX11_10 (fun _ q => q.1.oo) rfl ?_
      refine r_getf (pc := 45) (k := 1) dX11_ofHand_45 hX7 eX7 (by decide) fX11_140 (fun _ q => q.1.s) rfl ?_
      refine r_iload_n (pc := 48) dX11_ofHand_48 rfl ?_
      refine r_Vi (pc := 49) (μ' := mX1_numberOf) dX11_ofHand_49 nX11_159 iX1_numberOf vX1_numberOf kX1_numberOf rfl rfl (rr (by decide) rfl) rfl ⟨Nat.zero_le _, Nat.zero_le _⟩ (fun g' q => ct_Crew_numberOf q.1.W q) ?_
      rw [hs_m hi2 hlen]
      refine r_istore (pc := 52) dX11_ofHand_52 (Nat.le_of_ble_eq_true rfl) rfl ?_
      dsimp only [lset]
      refine r_iload_n (pc := 54) dX11_ofHand_54 rfl ?_
      by_cases s55_0 : b = 0
      · skip
        refine r_tableAt (pc := 55) 88 0 dX11_ofHand_55 (by rw [s55_0]; decide) (by decide) rfl (by decide) ?_
        rw [show ofHI (nI (hKd hs i)) (nI (hMn hs i)) b = nI (hKd hs i) by rw [s55_0]; rfl] at h7
        refine r_iload_n (pc := 88) dX11_ofHand_88 rfl ?_
        refine r_ireturn (pc := 89) (ty := .int) dX11_ofHand_89 rfl rfl ⟨Nat.zero_le _, Nat.zero_le _⟩ (fun gE hg => ?_)
        exact h7 _ hg.1 hg.2
      by_cases s55_1 : b = 1
      · skip
        refine r_tableAt (pc := 55) 90 1 dX11_ofHand_55 (by rw [s55_1]; decide) (by decide) rfl (by decide) ?_
        rw [show ofHI (nI (hKd hs i)) (nI (hMn hs i)) b = nI (hMn hs i) by rw [s55_1]; rfl] at h7
        refine r_iload (pc := 90) dX11_ofHand_90 rfl ?_
        refine r_ireturn (pc := 92) (ty := .int) dX11_ofHand_92 rfl rfl ⟨Nat.zero_le _, Nat.zero_le _⟩ (fun gE hg => ?_)
        exact h7 _ hg.1 hg.2
      by_cases s55_2 : b = 2
      · skip
        refine r_tableAt (pc := 55) 93 2 dX11_ofHand_55 (by rw [s55_2]; decide) (by decide) rfl (by decide) ?_
        rw [show ofHI (nI (hKd hs i)) (nI (hMn hs i)) b = paceI (nI (hKd hs i)) (nI (hMn hs i)) 0 by rw [s55_2]; rfl] at h7
        refine r_iload_n (pc := 93) dX11_ofHand_93 rfl ?_
        refine r_iload (pc := 94) dX11_ofHand_94 rfl ?_
        refine r_iconst (pc := 96) (v := 0) dX11_ofHand_96 (by decide) ?_
        refine r_Sp (pc := 97) (μ' := mX3_pace) dX11_ofHand_97 nX11_162 sX3_pace kX3_pace rfl rfl (rr (by decide) rfl) rfl ⟨Nat.zero_le _, Nat.zero_le _⟩ (fun h => ct_Kinds_pace h) ?_
        refine r_ireturn (pc := 100) (ty := .int) dX11_ofHand_100 rfl rfl ⟨Nat.zero_le _, Nat.zero_le _⟩ (fun gE hg => ?_)
        exact h7 _ hg.1 hg.2
      by_cases s55_3 : b = 3
      · skip
        refine r_tableAt (pc := 55) 101 3 dX11_ofHand_55 (by rw [s55_3]; decide) (by decide) rfl (by decide) ?_
        rw [show ofHI (nI (hKd hs i)) (nI (hMn hs i)) b = paceI (nI (hKd hs i)) (nI (hMn hs i)) 3 by rw [s55_3]; rfl] at h7
        refine r_iload_n (pc := 101) dX11_ofHand_101 rfl ?_
        refine r_iload (pc := 102) dX11_ofHand_102 rfl ?_
        refine r_iconst (pc := 104) (v := 3) dX11_ofHand_104 (by decide) ?_
        refine r_Sp (pc := 105) (μ' := mX3_pace) dX11_ofHand_105 nX11_162 sX3_pace kX3_pace rfl rfl (rr (by decide) rfl) rfl ⟨Nat.zero_le _, Nat.zero_le _⟩ (fun h => ct_Kinds_pace h) ?_
        refine r_ireturn (pc := 108) (ty := .int) dX11_ofHand_108 rfl rfl ⟨Nat.zero_le _, Nat.zero_le _⟩ (fun gE hg => ?_)
        exact h7 _ hg.1 hg.2
      by_cases s55_4 : b = 4
      · skip
        refine r_tableAt (pc := 55) 109 4 dX11_ofHand_55 (by rw [s55_4]; decide) (by decide) rfl (by decide) ?_
        rw [show ofHI (nI (hKd hs i)) (nI (hMn hs i)) b = loadI (nI (hKd hs i)) (nI (hMn hs i)) by rw [s55_4]; rfl] at h7
        refine r_iload_n (pc := 109) dX11_ofHand_109 rfl ?_
        refine r_iload (pc := 110) dX11_ofHand_110 rfl ?_
        refine r_Sp (pc := 112) (μ' := mX3_load) dX11_ofHand_112 nX11_165 sX3_load kX3_load rfl rfl (rr (by decide) rfl) rfl ⟨Nat.zero_le _, Nat.zero_le _⟩ (fun h => ct_Kinds_load h) ?_
        refine r_ireturn (pc := 115) (ty := .int) dX11_ofHand_115 rfl rfl ⟨Nat.zero_le _, Nat.zero_le _⟩ (fun gE hg => ?_)
        exact h7 _ hg.1 hg.2
      have t55_0 : ¬ (b).toInt = 0 := fun q => s55_0 (Int32.toInt_inj.mp q)
      have t55_1 : ¬ (b).toInt = 1 := fun q => s55_1 (Int32.toInt_inj.mp q)
      have t55_2 : ¬ (b).toInt = 2 := fun q => s55_2 (Int32.toInt_inj.mp q)
      have t55_3 : ¬ (b).toInt = 3 := fun q => s55_3 (Int32.toInt_inj.mp q)
      have t55_4 : ¬ (b).toInt = 4 := fun q => s55_4 (Int32.toInt_inj.mp q)
      refine r_tableOut (pc := 55) 116 dX11_ofHand_55 (by omega) (by decide) ?_
      rw [show ofHI (nI (hKd hs i)) (nI (hMn hs i)) b = usesI (nI (hKd hs i)) (nI (hMn hs i)) by unfold ofHI; rw [if_neg s55_0, if_neg s55_1, if_neg s55_2, if_neg s55_3, if_neg s55_4]] at h7
      refine r_iload_n (pc := 116) dX11_ofHand_116 rfl ?_
      refine r_iload (pc := 117) dX11_ofHand_117 rfl ?_
      refine r_Sp (pc := 119) (μ' := mX3_uses) dX11_ofHand_119 nX11_168 sX3_uses kX3_uses rfl rfl (rr (by decide) rfl) rfl ⟨Nat.zero_le _, Nat.zero_le _⟩ (fun h => ct_Kinds_uses h) ?_
      refine r_ireturn (pc := 122) (ty := .int) dX11_ofHand_122 rfl rfl ⟨Nat.zero_le _, Nat.zero_le _⟩ (fun gE hg => ?_)
      exact h7 _ hg.1 hg.2
    · skip
      have k2 := b2i_0.mp c20
      refine r_aload_n (pc := 23) dX11_ofHand_23 rfl ?_
      refine r_iconst (pc := 24) (v := 1) dX11_ofHand_24 (by decide) ?_
      refine r_Vi (pc := 25) (μ' := mX11_error) dX11_ofHand_25 nX11_88 iX11_error vX11_error kX11_error rfl rfl (rr (by decide) rfl) rfl ⟨Nat.zero_le _, Nat.zero_le _⟩ (fun g' q => ct_G_error (P' := fun g2 => Q (some (.int (-1000000000 - 1))) g2) q.1 (fun g2 a b => e1 (by first | (rw [k1]; rfl) | (rw [k1, k2]; rfl)) g2 a (q.2.tr b))) ?_
      refine r_ireturn (pc := 28) (ty := .int) dX11_ofHand_28 rfl rfl ⟨Nat.zero_le _, Nat.zero_le _⟩ (fun gE hg => ?_)
      exact hg
set_option maxHeartbeats 8000000 in
theorem ct_G_seams {a : Int32} (q : GA o K hs lD lL tp wa z k bt sh hd er im g) (ok : KOk K) (wb : WB K) (e1 : wiB a 0 1 = false → ∀ g', GA o K hs lD lL tp wa z k bt sh hd (errL er 1) im g' → Off o 95 g g' → Q (some (.int (-1000000000 - 1))) g') (hP : wiB a 0 1 = true → ∀ g', GA o K hs lD lL tp wa z k bt sh hd er im g' → Off o 95 g g' → Q (some (.int (if a = 0 then nI (cnR K (drL lD (kHe K)) (kRo K)) else nI (seenN K (drL lD (kHe K)) (ltL lL))))) g') : CV 10 0 0 mX11_seams o [.int a] g Q := by
  refine ⟨q.V, ?_⟩
  refine ct_of (by decide) (fun _ _ => Nat.le_of_ble_eq_true rfl) ?_
  dsimp only [pad, ent]
  refine aw_P (P' := fun g' => GA o K hs lD lL tp wa z k bt sh hd er im g' ∧ Off o 95 g g') (fun g' e => by subst e; exact ⟨q, Off.rf _ _ _⟩) ?_
  refine r_iload_n (pc := 0) dX11_seams_0 rfl ?_
  refine r_iconst (pc := 1) (v := 0) dX11_seams_1 (by decide) ?_
  refine r_iconst (pc := 2) (v := 1) dX11_seams_2 (by decide) ?_
  refine r_Sp (pc := 3) (μ' := mX11_within) dX11_seams_3 nX11_84 sX11_within kX11_within rfl rfl (rr (by omega) rfl) rfl ⟨Nat.zero_le _, Nat.zero_le _⟩ (fun h => ct_G_within h) ?_
  refine r_if_ne (pc := 6) 15 dX11_seams_6 (by decide) (fun c6 => ?_) (fun c6 => ?_)
  · skip
    have k1 := b2i_n0.mp c6
    have h7 := hP k1
    refine r_iload_n (pc := 15) dX11_seams_15 rfl ?_
    refine r_if_ne (pc := 16) 36 dX11_seams_16 (by decide) (fun c16 => ?_) (fun c16 => ?_)
    · skip
      rw [if_neg c16] at h7
      refine r_aload_n (pc := 36) dX11_seams_36 rfl ?_
      refine r_getf (pc := 37) (k := 3) dX11_seams_37 hX11 eX11 (by decide) fX11_38 (fun _ q => q.1.oo) rfl ?_
      refine r_aload_n (pc := 40) dX11_seams_40 rfl ?_
      refine r_getf (pc := 41) (k := 0) dX11_seams_41 hX11 eX11 (by decide) fX11_10 (fun _ q => q.1.oo) rfl ?_
      refine r_getf (pc := 44) (k := 0) dX11_seams_44 hX7 eX7 (by decide) fX11_92 (fun _ q => q.1.s) rfl ?_
      refine r_Vi (pc := 47) (μ' := mX2_seen) dX11_seams_47 nX11_232 iX2_seen vX2_seen kX2_seen rfl rfl (rr (by omega) rfl) rfl ⟨Nat.zero_le _, Nat.zero_le _⟩ (fun g' q => ct_Eye_seen (P' := fun g2 => GA o K hs lD lL tp wa z k bt sh hd er im g2 ∧ Off o 95 g g2) q.1.ec ok wb (fun g2 x y => ⟨q.1.eye x.1 y, q.2.tr (eyO y)⟩)) ?_
      refine r_ireturn (pc := 50) (ty := .int) dX11_seams_50 rfl rfl ⟨Nat.zero_le _, Nat.zero_le _⟩ (fun gE hg => ?_)
      exact h7 _ hg.1 hg.2
    · skip
      rw [if_pos c16] at h7
      refine r_aload_n (pc := 19) dX11_seams_19 rfl ?_
      refine r_getf (pc := 20) (k := 3) dX11_seams_20 hX11 eX11 (by decide) fX11_38 (fun _ q => q.1.oo) rfl ?_
      refine r_aload_n (pc := 23) dX11_seams_23 rfl ?_
      refine r_getf (pc := 24) (k := 0) dX11_seams_24 hX11 eX11 (by decide) fX11_10 (fun _ q => q.1.oo) rfl ?_
      refine r_getf (pc := 27) (k := 0) dX11_seams_27 hX7 eX7 (by decide) fX11_92 (fun _ q => q.1.s) rfl ?_
      refine r_Vi (pc := 30) (μ' := mX2_countSeams) dX11_seams_30 nX11_236 iX2_countSeams vX2_countSeams kX2_countSeams rfl rfl (rr (by omega) rfl) rfl ⟨Nat.zero_le _, Nat.zero_le _⟩ (fun g' q => ct_Eye_countSeams (P' := fun g2 => GA o K hs lD lL tp wa z k bt sh hd er im g2 ∧ Off o 95 g g2) q.1.ec ok wb (fun g2 x y => ⟨q.1.eye x.1 y, q.2.tr (eyO y)⟩)) ?_
      refine r_goto (pc := 33) 50 dX11_seams_33 (by decide) ?_
      refine r_ireturn (pc := 50) (ty := .int) dX11_seams_50 rfl rfl ⟨Nat.zero_le _, Nat.zero_le _⟩ (fun gE hg => ?_)
      exact h7 _ hg.1 hg.2
  · skip
    have k1 := b2i_0.mp c6
    refine r_aload_n (pc := 9) dX11_seams_9 rfl ?_
    refine r_iconst (pc := 10) (v := 1) dX11_seams_10 (by decide) ?_
    refine r_Vi (pc := 11) (μ' := mX11_error) dX11_seams_11 nX11_88 iX11_error vX11_error kX11_error rfl rfl (rr (by omega) rfl) rfl ⟨Nat.zero_le _, Nat.zero_le _⟩ (fun g' q => ct_G_error (P' := fun g2 => Q (some (.int (-1000000000 - 1))) g2) q.1 (fun g2 a b => e1 (by first | exact k1 | (rw [k1]; rfl)) g2 a (q.2.tr b))) ?_
    refine r_ireturn (pc := 14) (ty := .int) dX11_seams_14 rfl rfl ⟨Nat.zero_le _, Nat.zero_le _⟩ (fun gE hg => ?_)
    exact hg
set_option maxHeartbeats 8000000 in
theorem ct_G_minutes {a : Int32} (q : GA o K hs lD lL tp wa z k bt sh hd er im g) (hm : kMi K ≤ 9999) (e1 : wiB a 1 500 = false → ∀ g', GA o K hs lD lL tp wa z k bt sh hd (errL er 1) im g' → Off o 95 g g' → Q (some (.int (-1000000000 - 1))) g') (e3 : ∀ n, a = nI n → 1 ≤ n → n ≤ 500 → ¬ kMi K + n ≤ 9999 → ∀ g', GA o K hs lD lL tp wa z k bt sh hd (errL er 3) im g' → Off o 95 g g' → Q (some (.int (-1000000000 - 3))) g') (hP : ∀ n, a = nI n → 1 ≤ n → n ≤ 500 → kMi K + n ≤ 9999 → ∀ g', GA o (setMi K (kMi K + n)) hs lD lL tp wa z k bt sh hd er im g' → Off o 95 g g' → Q (some (.int (nI (kMi K + n)))) g') : CV 4 0 0 mX11_minutes o [.int a] g Q := by
  refine ⟨q.V, ?_⟩
  refine ct_of (by decide) (fun _ _ => Nat.le_of_ble_eq_true rfl) ?_
  dsimp only [pad, ent]
  refine aw_P (P' := fun g' => GA o K hs lD lL tp wa z k bt sh hd er im g' ∧ Off o 95 g g') (fun g' e => by subst e; exact ⟨q, Off.rf _ _ _⟩) ?_
  have hmi : K.2.2.1 = kMi K := rfl
  refine r_iload_n (pc := 0) dX11_minutes_0 rfl ?_
  refine r_iconst (pc := 1) (v := 1) dX11_minutes_1 (by decide) ?_
  refine r_sipush (pc := 2) (v := 500) dX11_minutes_2 (by decide) ?_
  refine r_Sp (pc := 5) (μ' := mX11_within) dX11_minutes_5 nX11_84 sX11_within kX11_within rfl rfl (rr (by decide) rfl) rfl ⟨Nat.zero_le _, Nat.zero_le _⟩ (fun h => ct_G_within h) ?_
  refine r_if_ne (pc := 8) 17 dX11_minutes_8 (by decide) (fun c8 => ?_) (fun c8 => ?_)
  · skip
    have k1 := b2i_n0.mp c8
    have w1 := wi_t k1
    rw [t1, show (500 : Int32).toInt = 500 from rfl] at w1
    obtain ⟨n, hn, h1, h2⟩ : ∃ n, a = nI n ∧ 1 ≤ n ∧ n ≤ 500 := ⟨a.toInt.toNat, (nI_tn (by omega) (by omega)).symm, by omega, by omega⟩
    have hT := nI_toInt (n := kMi K + n) (by omega)
    refine r_aload_n (pc := 17) dX11_minutes_17 rfl ?_
    refine r_getf (pc := 18) (k := 0) dX11_minutes_18 hX11 eX11 (by decide) fX11_10 (fun _ q => q.1.oo) rfl ?_
    refine r_getf (pc := 21) (k := 0) dX11_minutes_21 hX7 eX7 (by decide) fX11_92 (fun _ q => q.1.s) rfl ?_
    refine r_Vi (pc := 24) (μ' := mX0_minute) dX11_minutes_24 nX11_220 iX0_minute vX0_minute kX0_minute rfl rfl (rr (by decide) rfl) rfl ⟨Nat.zero_le _, Nat.zero_le _⟩ (fun g' q => ct_Ceil_minute (q.1.Ci : CeilI _ _ _ _ _ _ _ _ _ _ _ _) q) ?_
    rw [hn]
    refine r_iload_n (pc := 27) dX11_minutes_27 rfl ?_
    refine r_iadd (pc := 28) dX11_minutes_28 ?_
    rw [hmi, nI_add]
    refine r_sipush (pc := 29) (v := 9999) dX11_minutes_29 (by decide) ?_
    refine r_icmp_le (pc := 32) 41 dX11_minutes_32 (by decide) (fun c32 => ?_) (fun c32 => ?_)
    · skip
      have k3 : kMi K + n ≤ 9999 := by have := fa_le.mp c32; rw [hT, show (9999 : Int32).toInt = 9999 from rfl] at this; omega
      refine r_aload_n (pc := 41) dX11_minutes_41 rfl ?_
      refine r_getf (pc := 42) (k := 0) dX11_minutes_42 hX11 eX11 (by decide) fX11_10 (fun _ q => q.1.oo) rfl ?_
      refine r_getf (pc := 45) (k := 0) dX11_minutes_45 hX7 eX7 (by decide) fX11_92 (fun _ q => q.1.s) rfl ?_
      refine r_iload_n (pc := 48) dX11_minutes_48 rfl ?_
      refine r_Vv (pc := 49) (μ' := mX0_letPass) dX11_minutes_49 nX11_223 iX0_letPass vX0_letPass kX0_letPass rfl rfl (rr (by decide) rfl) rfl ⟨Nat.zero_le _, Nat.zero_le _⟩ (fun g' q => ct_Ceil_letPass (P' := fun g2 => GA o (setMi K (kMi K + n)) hs lD lL tp wa z k bt sh hd er im g2 ∧ Off o 95 g g2) (q.1.Ci : CeilI _ _ _ _ _ _ _ _ _ _ _ _) (fun g2 x y => ⟨q.1.setC (K9 := setMi K (kMi K + n)) (by obtain ⟨ro, st, mi, he, le, wh, si, ca, w, t⟩ := K; rw [nI_add] at x; exact x) y, q.2.tr (y.wide (by omega) (by omega))⟩)) ?_
      refine r_aload_n (pc := 52) dX11_minutes_52 rfl ?_
      refine r_getf (pc := 53) (k := 0) dX11_minutes_53 hX11 eX11 (by decide) fX11_10 (fun _ q => q.1.oo) rfl ?_
      refine r_getf (pc := 56) (k := 0) dX11_minutes_56 hX7 eX7 (by decide) fX11_92 (fun _ q => q.1.s) rfl ?_
      refine r_Vi (pc := 59) (μ' := mX0_minute) dX11_minutes_59 nX11_220 iX0_minute vX0_minute kX0_minute rfl rfl (rr (by decide) rfl) rfl ⟨Nat.zero_le _, Nat.zero_le _⟩ (fun g' q => ct_Ceil_minute (q.1.Ci : CeilI _ _ _ _ _ _ _ _ _ _ _ _) q) ?_
      refine r_ireturn (pc := 62) (ty := .int) dX11_minutes_62 rfl rfl ⟨Nat.zero_le _, Nat.zero_le _⟩ (fun gE hg => ?_)
      exact hP n hn h1 h2 k3 _ hg.1 hg.2
    · skip
      have k3 : ¬ kMi K + n ≤ 9999 := fun x => c32 (fa_le.mpr (by rw [hT, show (9999 : Int32).toInt = 9999 from rfl]; omega))
      refine r_aload_n (pc := 35) dX11_minutes_35 rfl ?_
      refine r_iconst (pc := 36) (v := 3) dX11_minutes_36 (by decide) ?_
      refine r_Vi (pc := 37) (μ' := mX11_error) dX11_minutes_37 nX11_88 iX11_error vX11_error kX11_error rfl rfl (rr (by decide) rfl) rfl ⟨Nat.zero_le _, Nat.zero_le _⟩ (fun g' q => ct_G_error (P' := fun g2 => Q (some (.int (-1000000000 - 3))) g2) q.1 (fun g2 x y => e3 n hn h1 h2 k3 g2 x (q.2.tr y))) ?_
      refine r_ireturn (pc := 40) (ty := .int) dX11_minutes_40 rfl rfl ⟨Nat.zero_le _, Nat.zero_le _⟩ (fun gE hg => ?_)
      exact hg
  · skip
    have k1 := b2i_0.mp c8
    refine r_aload_n (pc := 11) dX11_minutes_11 rfl ?_
    refine r_iconst (pc := 12) (v := 1) dX11_minutes_12 (by decide) ?_
    refine r_Vi (pc := 13) (μ' := mX11_error) dX11_minutes_13 nX11_88 iX11_error vX11_error kX11_error rfl rfl (rr (by decide) rfl) rfl ⟨Nat.zero_le _, Nat.zero_le _⟩ (fun g' q => ct_G_error (P' := fun g2 => Q (some (.int (-1000000000 - 1))) g2) q.1 (fun g2 a b => e1 (by first | exact k1 | (rw [k1]; rfl)) g2 a (q.2.tr b))) ?_
    refine r_ireturn (pc := 16) (ty := .int) dX11_minutes_16 rfl rfl ⟨Nat.zero_le _, Nat.zero_le _⟩ (fun gE hg => ?_)
    exact hg
end Meth4
