/-! THE WHOLE (OneGoCeiling): seed, tell, told, trace, ROLL -/
section Meth9
variable {o : Nat} {K K9 R : CK} {hs hs9 : List (Nat × Nat)} {lD lL tp wa hd er : List Int32} {z im : Int32} {k : NS} {bt : Nat → Int32} {sh : Nat → List Int32} {h g : AH} {Q : Option Value → AH → Prop}
set_option maxHeartbeats 8000000 in
theorem ct_G_seed {a : Int32} (q : GA o K hs lD lL tp wa z k bt sh hd er im g) (hP : ∀ g', GA o K hs lD lL tp wa a k bt sh hd er im g' → Off o 95 g g' → Q (some (.int z)) g') : CV 4 0 0 mX11_seed o [.int a] g Q := by
  refine ⟨q.V, ?_⟩
  refine ct_of (by decide) (fun _ _ => Nat.le_of_ble_eq_true rfl) ?_
  dsimp only [pad, ent]
  refine aw_P (P' := fun g' => GA o K hs lD lL tp wa z k bt sh hd er im g' ∧ Off o 95 g g') (fun g' e => by subst e; exact ⟨q, Off.rf _ _ _⟩) ?_
  refine r_aload_n (pc := 0) dX11_seed_0 rfl ?_
  refine r_getf (pc := 1) (k := 0) dX11_seed_1 hX11 eX11 (by decide) fX11_10 (fun _ q => q.1.oo) rfl ?_
  refine r_getf (pc := 4) (k := 6) dX11_seed_4 hX7 eX7 (by decide) fX11_310 (fun _ q => q.1.s) rfl ?_
  refine r_istore_n (pc := 7) dX11_seed_7 rfl (Nat.le_of_ble_eq_true rfl) rfl ?_
  dsimp only [lset]
  refine r_aload_n (pc := 8) dX11_seed_8 rfl ?_
  refine r_getf (pc := 9) (k := 0) dX11_seed_9 hX11 eX11 (by decide) fX11_10 (fun _ q => q.1.oo) rfl ?_
  refine r_iload_n (pc := 12) dX11_seed_12 rfl ?_
  refine r_putf (pc := 13) (k := 6) (P' := fun g' => GA o K hs lD lL tp wa a k bt sh hd er im g' ∧ Off o 95 g g') tyX7 dX11_seed_13 hX7 tyX7_ok nmX7 eX7 (by decide) fX11_310 rfl rfl (fun _ _ => rfl) (fun _ _ => rfl) (Nat.le_of_ble_eq_true rfl) (fun _ q => q.1.s) (fun _ q => ⟨q.1.putZ, q.2.set (by omega) (by omega)⟩) ?_
  refine r_iload_n (pc := 16) dX11_seed_16 rfl ?_
  refine r_ireturn (pc := 17) (ty := .int) dX11_seed_17 rfl rfl ⟨Nat.zero_le _, Nat.zero_le _⟩ (fun gE hg => ?_)
  exact hP _ hg.1 hg.2
set_option maxHeartbeats 8000000 in
theorem ct_G_tell {a : Int32} (q : GA o K hs lD lL tp wa z k bt sh hd er im g) (e4 : ¬ wa.length < 20 → ∀ g', GA o K hs lD lL tp wa z k bt sh hd (errL er 4) im g' → Off o 95 g g' → Q (some (.int (-1000000000 - 4))) g') (hP : wa.length < 20 → ∀ g', GA o K hs lD lL tp (wa ++ [a]) z k bt sh hd er im g' → Off o 95 g g' → Q (some (.int (nI (wa.length + 1)))) g') : CV 4 0 0 mX11_tell o [.int a] g Q := by
  refine ⟨q.V, ?_⟩
  refine ct_of (by decide) (fun _ _ => Nat.le_of_ble_eq_true rfl) ?_
  dsimp only [pad, ent]
  have hw := q.Wa.2.1
  refine aw_P (P' := fun g' => GA o K hs lD lL tp wa z k bt sh hd er im g' ∧ Off o 95 g g') (fun g' e => by subst e; exact ⟨q, Off.rf _ _ _⟩) ?_
  by_cases c : wa.length < 20
  · skip
    refine r_aload_n (pc := 0) dX11_tell_0 rfl ?_
    refine r_getf (pc := 1) (k := 0) dX11_tell_1 hX11 eX11 (by decide) fX11_10 (fun _ q => q.1.oo) rfl ?_
    refine r_getf (pc := 4) (k := 5) dX11_tell_4 hX7 eX7 (by decide) fX11_358 (fun _ q => q.1.s) rfl ?_
    refine r_iload_n (pc := 7) dX11_tell_7 rfl ?_
    refine r_Vi (pc := 8) (μ' := mX5_add) dX11_tell_8 nX11_188 iX5_add vX5_add kX5_add rfl rfl (rr (by decide) rfl) rfl ⟨Nat.zero_le _, Nat.zero_le _⟩ (fun g' q => ct_Row_add (P' := fun g2 => GA o K hs lD lL tp (wa ++ [a]) z k bt sh hd er im g2 ∧ Off o 95 g g2) q.1.Wa (fun g2 x y => ⟨q.1.setWa (by unfold addL at x; rw [if_pos c] at x; exact x) y, q.2.tr (y.wide (by omega) (by omega))⟩)) ?_
    refine r_if_ne (pc := 11) 20 dX11_tell_11 (by decide) (fun c11 => ?_) (fun c11 => ?_)
    · skip
      refine r_aload_n (pc := 20) dX11_tell_20 rfl ?_
      refine r_getf (pc := 21) (k := 0) dX11_tell_21 hX11 eX11 (by decide) fX11_10 (fun _ q => q.1.oo) rfl ?_
      refine r_getf (pc := 24) (k := 5) dX11_tell_24 hX7 eX7 (by decide) fX11_358 (fun _ q => q.1.s) rfl ?_
      refine r_Vi (pc := 27) (μ' := mX5_length) dX11_tell_27 nX11_183 iX5_length vX5_length kX5_length rfl rfl (rr (by decide) rfl) rfl ⟨Nat.zero_le _, Nat.zero_le _⟩ (fun g' q => ct_Row_length q.1.Wa q) ?_
      rw [List.length_append]
      refine r_ireturn (pc := 30) (ty := .int) dX11_tell_30 rfl rfl ⟨Nat.zero_le _, Nat.zero_le _⟩ (fun gE hg => ?_)
      exact hP c _ hg.1 hg.2
    · skip
      exact absurd (b2i_0.mp c11) (by rw [decide_eq_true c]; decide)
  · skip
    refine r_aload_n (pc := 0) dX11_tell_0 rfl ?_
    refine r_getf (pc := 1) (k := 0) dX11_tell_1 hX11 eX11 (by decide) fX11_10 (fun _ q => q.1.oo) rfl ?_
    refine r_getf (pc := 4) (k := 5) dX11_tell_4 hX7 eX7 (by decide) fX11_358 (fun _ q => q.1.s) rfl ?_
    refine r_iload_n (pc := 7) dX11_tell_7 rfl ?_
    refine r_Vi (pc := 8) (μ' := mX5_add) dX11_tell_8 nX11_188 iX5_add vX5_add kX5_add rfl rfl (rr (by decide) rfl) rfl ⟨Nat.zero_le _, Nat.zero_le _⟩ (fun g' q => ct_Row_add (P' := fun g2 => GA o K hs lD lL tp wa z k bt sh hd er im g2 ∧ Off o 95 g g2) q.1.Wa (fun g2 x y => ⟨q.1.setWa (by unfold addL at x; rw [if_neg c] at x; exact x) y, q.2.tr (y.wide (by omega) (by omega))⟩)) ?_
    refine r_if_ne (pc := 11) 20 dX11_tell_11 (by decide) (fun c11 => ?_) (fun c11 => ?_)
    · skip
      exact absurd (b2i_n0.mp c11) (by rw [decide_eq_false c]; decide)
    · skip
      refine r_aload_n (pc := 14) dX11_tell_14 rfl ?_
      refine r_iconst (pc := 15) (v := 4) dX11_tell_15 (by decide) ?_
      refine r_Vi (pc := 16) (μ' := mX11_error) dX11_tell_16 nX11_88 iX11_error vX11_error kX11_error rfl rfl (rr (by decide) rfl) rfl ⟨Nat.zero_le _, Nat.zero_le _⟩ (fun g' q => ct_G_error (P' := fun g2 => Q (some (.int (-1000000000 - 4))) g2) q.1 (fun g2 x y => e4 c g2 x (q.2.tr y))) ?_
      refine r_ireturn (pc := 19) (ty := .int) dX11_tell_19 rfl rfl ⟨Nat.zero_le _, Nat.zero_le _⟩ (fun gE hg => ?_)
      exact hg
set_option maxHeartbeats 8000000 in
theorem ct_G_told {a : Int32} (q : GA o K hs lD lL tp wa z k bt sh hd er im g) (e1 : wiB a 1 5 = false → ∀ g', GA o K hs lD lL tp wa z k bt sh hd (errL er 1) im g' → Off o 95 g g' → Q (some (.int (-1000000000 - 1))) g') (hP : wiB a 1 5 = true → ∀ g', GA o K hs lD lL tp wa z k bt sh hd er im g' → Off o 95 g g' → Q (some (.int (atL er a))) g') : CV 4 0 0 mX11_told o [.int a] g Q := by
  refine ⟨q.V, ?_⟩
  refine ct_of (by decide) (fun _ _ => Nat.le_of_ble_eq_true rfl) ?_
  dsimp only [pad, ent]
  refine aw_P (P' := fun g' => GA o K hs lD lL tp wa z k bt sh hd er im g' ∧ Off o 95 g g') (fun g' e => by subst e; exact ⟨q, Off.rf _ _ _⟩) ?_
  refine r_iload_n (pc := 0) dX11_told_0 rfl ?_
  refine r_iconst (pc := 1) (v := 1) dX11_told_1 (by decide) ?_
  refine r_iconst (pc := 2) (v := 5) dX11_told_2 (by decide) ?_
  refine r_Sp (pc := 3) (μ' := mX11_within) dX11_told_3 nX11_84 sX11_within kX11_within rfl rfl (rr (by decide) rfl) rfl ⟨Nat.zero_le _, Nat.zero_le _⟩ (fun h => ct_G_within h) ?_
  refine r_if_eq (pc := 6) 20 dX11_told_6 (by decide) (fun c6 => ?_) (fun c6 => ?_)
  · skip
    have k1 := b2i_0.mp c6
    refine r_aload_n (pc := 20) dX11_told_20 rfl ?_
    refine r_iconst (pc := 21) (v := 1) dX11_told_21 (by decide) ?_
    refine r_Vi (pc := 22) (μ' := mX11_error) dX11_told_22 nX11_88 iX11_error vX11_error kX11_error rfl rfl (rr (by decide) rfl) rfl ⟨Nat.zero_le _, Nat.zero_le _⟩ (fun g' q => ct_G_error (P' := fun g2 => Q (some (.int (-1000000000 - 1))) g2) q.1 (fun g2 x y => e1 k1 g2 x (q.2.tr y))) ?_
    refine r_ireturn (pc := 25) (ty := .int) dX11_told_25 rfl rfl ⟨Nat.zero_le _, Nat.zero_le _⟩ (fun gE hg => ?_)
    exact hg
  · skip
    have k1 := b2i_n0.mp c6
    refine r_aload_n (pc := 9) dX11_told_9 rfl ?_
    refine r_getf (pc := 10) (k := 7) dX11_told_10 hX11 eX11 (by decide) fX11_70 (fun _ q => q.1.oo) rfl ?_
    refine r_iload_n (pc := 13) dX11_told_13 rfl ?_
    refine r_Vi (pc := 14) (μ' := mX5_at) dX11_told_14 nX11_322 iX5_at vX5_at kX5_at rfl rfl (rr (by decide) rfl) rfl ⟨Nat.zero_le _, Nat.zero_le _⟩ (fun g' q => ct_Row_at (P' := fun g2 => Q (some (.int (atL er a))) g2) q.1.Er (hP k1 _ q.1 q.2)) ?_
    refine r_goto (pc := 17) 25 dX11_told_17 (by decide) ?_
    refine r_ireturn (pc := 25) (ty := .int) dX11_told_25 rfl rfl ⟨Nat.zero_le _, Nat.zero_le _⟩ (fun gE hg => ?_)
    exact hg
set_option maxHeartbeats 8000000 in
theorem ct_G_roll {a b c : Int32} (q : GA o K hs lD lL tp wa z k bt sh hd er im g) (ok : KOk K) (hm : kMi K ≤ 9999) (hok : HOk hs) (e1 : (hdB hs a && decide (0 ≤ b.toInt ∧ b.toInt < kSt K) && wiB c 0 1) = false → ∀ g', GA o K hs lD lL tp wa z k bt sh hd (errL er 1) im g' → Off o 95 g g' → Q (some (.int (-1000000000 - 1))) g') (e3 : (hdB hs a && decide (0 ≤ b.toInt ∧ b.toInt < kSt K) && wiB c 0 1) = true → ¬ kMi K ≤ 9900 → ∀ g', GA o K hs lD lL tp wa z k bt sh hd (errL er 3) im g' → Off o 95 g g' → Q (some (.int (-1000000000 - 3))) g') (hP : ∀ i s, a = nI i → i < hs.length → b = nI s → s < kSt K → wiB c 0 1 = true → kMi K ≤ 9900 → ∀ g', GA o (paintK (hKd hs i) (hMn hs i) s (decide (c = 1)) K) hs lD lL tp wa z k bt sh hd er im g' → Off o 95 g g' → Q (some (.int (nI (kMi (paintK (hKd hs i) (hMn hs i) s (decide (c = 1)) K))))) g') : CV 6 0 0 mX11_roll o [.int a, .int b, .int c] g Q := by
  refine ⟨q.V, ?_⟩
  refine ct_of (by decide) (fun _ _ => Nat.le_of_ble_eq_true rfl) ?_
  dsimp only [pad, ent]
  have hst : 1 ≤ kSt K ∧ kSt K ≤ 6 := ok.2.1
  have hTs : (nI K.2.1).toInt = (kSt K : Int) := nI_T (n := kSt K) (by omega)
  have hTm : (nI K.2.2.1).toInt = (kMi K : Int) := nI_toInt (n := kMi K) (by omega)
  have hlen := hok.1
  refine aw_P (P' := fun g' => GA o K hs lD lL tp wa z k bt sh hd er im g' ∧ Off o 95 g g') (fun g' e => by subst e; exact ⟨q, Off.rf _ _ _⟩) ?_
  refine r_aload_n (pc := 0) dX11_roll_0 rfl ?_
  refine r_getf (pc := 1) (k := 0) dX11_roll_1 hX11 eX11 (by decide) fX11_10 (fun _ q => q.1.oo) rfl ?_
  refine r_getf (pc := 4) (k := 1) dX11_roll_4 hX7 eX7 (by decide) fX11_140 (fun _ q => q.1.s) rfl ?_
  refine r_iload_n (pc := 7) dX11_roll_7 rfl ?_
  refine r_Vi (pc := 8) (μ' := mX1_has) dX11_roll_8 nX11_153 iX1_has vX1_has kX1_has rfl rfl (rr (by decide) rfl) rfl ⟨Nat.zero_le _, Nat.zero_le _⟩ (fun g' q => ct_Crew_has q.1.W q) ?_
  refine r_if_eq (pc := 11) 37 dX11_roll_11 (by decide) (fun c11 => ?_) (fun c11 => ?_)
  · skip
    have k1 : hdB hs a = false := b2i_0.mp c11
    refine r_aload_n (pc := 37) dX11_roll_37 rfl ?_
    refine r_iconst (pc := 38) (v := 1) dX11_roll_38 (by decide) ?_
    refine r_Vi (pc := 39) (μ' := mX11_error) dX11_roll_39 nX11_88 iX11_error vX11_error kX11_error rfl rfl (rr (by decide) rfl) rfl ⟨Nat.zero_le _, Nat.zero_le _⟩ (fun g' q => ct_G_error (P' := fun g2 => Q (some (.int (-1000000000 - 1))) g2) q.1 (fun g2 x y => e1 (by first | (rw [k1]; rfl) | (rw [k1, k2]; rfl) | (rw [k1, k2, k3]; rfl)) g2 x (q.2.tr y))) ?_
    refine r_ireturn (pc := 42) (ty := .int) dX11_roll_42 rfl rfl ⟨Nat.zero_le _, Nat.zero_le _⟩ (fun gE hg => ?_)
    exact hg
  · skip
    have k1 : hdB hs a = true := b2i_n0.mp c11
    refine r_aload_n (pc := 14) dX11_roll_14 rfl ?_
    refine r_getf (pc := 15) (k := 0) dX11_roll_15 hX11 eX11 (by decide) fX11_10 (fun _ q => q.1.oo) rfl ?_
    refine r_getf (pc := 18) (k := 0) dX11_roll_18 hX7 eX7 (by decide) fX11_92 (fun _ q => q.1.s) rfl ?_
    refine r_iload_n (pc := 21) dX11_roll_21 rfl ?_
    refine r_Vi (pc := 22) (μ' := mX0_isStrip) dX11_roll_22 nX11_210 iX0_isStrip vX0_isStrip kX0_isStrip rfl rfl (rr (by decide) rfl) rfl ⟨Nat.zero_le _, Nat.zero_le _⟩ (fun g' q => ct_Ceil_isStrip (q.1.Ci : CeilI _ _ _ _ _ _ _ _ _ _ _ _) q) ?_
    rw [hTs]
    refine r_if_eq (pc := 25) 37 dX11_roll_25 (by decide) (fun c25 => ?_) (fun c25 => ?_)
    · skip
      have k2 := b2i_0.mp c25
      refine r_aload_n (pc := 37) dX11_roll_37 rfl ?_
      refine r_iconst (pc := 38) (v := 1) dX11_roll_38 (by decide) ?_
      refine r_Vi (pc := 39) (μ' := mX11_error) dX11_roll_39 nX11_88 iX11_error vX11_error kX11_error rfl rfl (rr (by decide) rfl) rfl ⟨Nat.zero_le _, Nat.zero_le _⟩ (fun g' q => ct_G_error (P' := fun g2 => Q (some (.int (-1000000000 - 1))) g2) q.1 (fun g2 x y => e1 (by first | (rw [k1]; rfl) | (rw [k1, k2]; rfl) | (rw [k1, k2, k3]; rfl)) g2 x (q.2.tr y))) ?_
      refine r_ireturn (pc := 42) (ty := .int) dX11_roll_42 rfl rfl ⟨Nat.zero_le _, Nat.zero_le _⟩ (fun gE hg => ?_)
      exact hg
    · skip
      have k2 := b2i_n0.mp c25
      refine r_iload_n (pc := 28) dX11_roll_28 rfl ?_
      refine r_iconst (pc := 29) (v := 0) dX11_roll_29 (by decide) ?_
      refine r_iconst (pc := 30) (v := 1) dX11_roll_30 (by decide) ?_
      refine r_Sp (pc := 31) (μ' := mX11_within) dX11_roll_31 nX11_84 sX11_within kX11_within rfl rfl (rr (by decide) rfl) rfl ⟨Nat.zero_le _, Nat.zero_le _⟩ (fun h => ct_G_within h) ?_
      refine r_if_ne (pc := 34) 43 dX11_roll_34 (by decide) (fun c34 => ?_) (fun c34 => ?_)
      · skip
        have k3 := b2i_n0.mp c34
        have k5 := of_decide_eq_true k2
        obtain ⟨i, hi, hi2⟩ := hd_t k1 hok
        obtain ⟨s, hs1, hs2⟩ : ∃ s, b = nI s ∧ s < kSt K := ⟨b.toInt.toNat, (nI_tn (by omega) (by omega)).symm, by omega⟩
        refine r_aload_n (pc := 43) dX11_roll_43 rfl ?_
        refine r_getf (pc := 44) (k := 0) dX11_roll_44 hX11 eX11 (by decide) fX11_10 (fun _ q => q.1.oo) rfl ?_
        refine r_getf (pc := 47) (k := 0) dX11_roll_47 hX7 eX7 (by decide) fX11_92 (fun _ q => q.1.s) rfl ?_
        refine r_Vi (pc := 50) (μ' := mX0_mayBeRolled) dX11_roll_50 nX11_213 iX0_mayBeRolled vX0_mayBeRolled kX0_mayBeRolled rfl rfl (rr (by decide) rfl) rfl ⟨Nat.zero_le _, Nat.zero_le _⟩ (fun g' q => ct_Ceil_mayBeRolled (q.1.Ci : CeilI _ _ _ _ _ _ _ _ _ _ _ _) q) ?_
        rw [hTm]
        refine r_if_ne (pc := 53) 62 dX11_roll_53 (by decide) (fun c53 => ?_) (fun c53 => ?_)
        · skip
          have k4 : kMi K ≤ 9900 := by have := of_decide_eq_true (b2i_n0.mp c53); omega
          have h7 := hP i s hi hi2 hs1 hs2 k3 k4
          refine r_aload_n (pc := 62) dX11_roll_62 rfl ?_
          refine r_getf (pc := 63) (k := 0) dX11_roll_63 hX11 eX11 (by decide) fX11_10 (fun _ q => q.1.oo) rfl ?_
          refine r_getf (pc := 66) (k := 0) dX11_roll_66 hX7 eX7 (by decide) fX11_92 (fun _ q => q.1.s) rfl ?_
          refine r_aload_n (pc := 69) dX11_roll_69 rfl ?_
          refine r_getf (pc := 70) (k := 0) dX11_roll_70 hX11 eX11 (by decide) fX11_10 (fun _ q => q.1.oo) rfl ?_
          refine r_getf (pc := 73) (k := 1) dX11_roll_73 hX7 eX7 (by decide) fX11_140 (fun _ q => q.1.s) rfl ?_
          refine r_iload_n (pc := 76) dX11_roll_76 rfl ?_
          refine r_Vi (pc := 77) (μ' := mX1_kindOf) dX11_roll_77 nX11_156 iX1_kindOf vX1_kindOf kX1_kindOf rfl rfl (rr (by decide) rfl) rfl ⟨Nat.zero_le _, Nat.zero_le _⟩ (fun g' q => ct_Crew_kindOf q.1.W q) ?_
          rw [hi, hs_k hi2 hlen]
          refine r_aload_n (pc := 80) dX11_roll_80 rfl ?_
          refine r_getf (pc := 81) (k := 0) dX11_roll_81 hX11 eX11 (by decide) fX11_10 (fun _ q => q.1.oo) rfl ?_
          refine r_getf (pc := 84) (k := 1) dX11_roll_84 hX7 eX7 (by decide) fX11_140 (fun _ q => q.1.s) rfl ?_
          refine r_iload_n (pc := 87) dX11_roll_87 rfl ?_
          refine r_Vi (pc := 88) (μ' := mX1_numberOf) dX11_roll_88 nX11_159 iX1_numberOf vX1_numberOf kX1_numberOf rfl rfl (rr (by decide) rfl) rfl ⟨Nat.zero_le _, Nat.zero_le _⟩ (fun g' q => ct_Crew_numberOf q.1.W q) ?_
          rw [hs_m hi2 hlen, hs1]
          refine r_iload_n (pc := 91) dX11_roll_91 rfl ?_
          refine r_iload_n (pc := 92) dX11_roll_92 rfl ?_
          refine r_iconst (pc := 93) (v := 1) dX11_roll_93 (by decide) ?_
          refine r_icmp_ne (pc := 94) 101 dX11_roll_94 (by decide) (fun c94 => ?_) (fun c94 => ?_)
          · skip
            rw [decide_eq_false c94] at h7
            have hup : (0 : Int32) = b2i false := rfl
            refine r_iconst (pc := 101) (v := 0) dX11_roll_101 (by decide) ?_
            rw [hup]
            refine r_Vv (pc := 102) (μ' := mX0_paint) dX11_roll_102 nX11_216 iX0_paint vX0_paint kX0_paint rfl rfl (rr (by decide) rfl) rfl ⟨Nat.zero_le _, Nat.zero_le _⟩ (fun g' q => ct_Ceil_paint q.1.Ci ok (hok.at hi2).1 (hok.at hi2).2 hs2 (fun g2 x y => (⟨q.1.setC x y, q.2.tr (y.wide (by omega) (by omega))⟩ : GA o _ hs lD lL tp wa z k bt sh hd er im g2 ∧ Off o 95 g g2))) ?_
            refine r_aload_n (pc := 105) dX11_roll_105 rfl ?_
            refine r_getf (pc := 106) (k := 0) dX11_roll_106 hX11 eX11 (by decide) fX11_10 (fun _ q => q.1.oo) rfl ?_
            refine r_getf (pc := 109) (k := 0) dX11_roll_109 hX7 eX7 (by decide) fX11_92 (fun _ q => q.1.s) rfl ?_
            refine r_Vi (pc := 112) (μ' := mX0_minute) dX11_roll_112 nX11_220 iX0_minute vX0_minute kX0_minute rfl rfl (rr (by decide) rfl) rfl ⟨Nat.zero_le _, Nat.zero_le _⟩ (fun g' q => ct_Ceil_minute (q.1.Ci : CeilI _ _ _ _ _ _ _ _ _ _ _ _) q) ?_
            refine r_ireturn (pc := 115) (ty := .int) dX11_roll_115 rfl rfl ⟨Nat.zero_le _, Nat.zero_le _⟩ (fun gE hg => ?_)
            exact h7 _ hg.1 hg.2
          · skip
            rw [decide_eq_true c94] at h7
            have hup : (1 : Int32) = b2i true := rfl
            refine r_iconst (pc := 97) (v := 1) dX11_roll_97 (by decide) ?_
            refine r_goto (pc := 98) 102 dX11_roll_98 (by decide) ?_
            rw [hup]
            refine r_Vv (pc := 102) (μ' := mX0_paint) dX11_roll_102 nX11_216 iX0_paint vX0_paint kX0_paint rfl rfl (rr (by decide) rfl) rfl ⟨Nat.zero_le _, Nat.zero_le _⟩ (fun g' q => ct_Ceil_paint q.1.Ci ok (hok.at hi2).1 (hok.at hi2).2 hs2 (fun g2 x y => (⟨q.1.setC x y, q.2.tr (y.wide (by omega) (by omega))⟩ : GA o _ hs lD lL tp wa z k bt sh hd er im g2 ∧ Off o 95 g g2))) ?_
            refine r_aload_n (pc := 105) dX11_roll_105 rfl ?_
            refine r_getf (pc := 106) (k := 0) dX11_roll_106 hX11 eX11 (by decide) fX11_10 (fun _ q => q.1.oo) rfl ?_
            refine r_getf (pc := 109) (k := 0) dX11_roll_109 hX7 eX7 (by decide) fX11_92 (fun _ q => q.1.s) rfl ?_
            refine r_Vi (pc := 112) (μ' := mX0_minute) dX11_roll_112 nX11_220 iX0_minute vX0_minute kX0_minute rfl rfl (rr (by decide) rfl) rfl ⟨Nat.zero_le _, Nat.zero_le _⟩ (fun g' q => ct_Ceil_minute (q.1.Ci : CeilI _ _ _ _ _ _ _ _ _ _ _ _) q) ?_
            refine r_ireturn (pc := 115) (ty := .int) dX11_roll_115 rfl rfl ⟨Nat.zero_le _, Nat.zero_le _⟩ (fun gE hg => ?_)
            exact h7 _ hg.1 hg.2
        · skip
          have k4 : ¬ kMi K ≤ 9900 := by have := of_decide_eq_false (b2i_0.mp c53); omega
          refine r_aload_n (pc := 56) dX11_roll_56 rfl ?_
          refine r_iconst (pc := 57) (v := 3) dX11_roll_57 (by decide) ?_
          refine r_Vi (pc := 58) (μ' := mX11_error) dX11_roll_58 nX11_88 iX11_error vX11_error kX11_error rfl rfl (rr (by decide) rfl) rfl ⟨Nat.zero_le _, Nat.zero_le _⟩ (fun g' q => ct_G_error (P' := fun g2 => Q (some (.int (-1000000000 - 3))) g2) q.1 (fun g2 x y => e3 (by rw [k1, k2, k3]; rfl) k4 g2 x (q.2.tr y))) ?_
          refine r_ireturn (pc := 61) (ty := .int) dX11_roll_61 rfl rfl ⟨Nat.zero_le _, Nat.zero_le _⟩ (fun gE hg => ?_)
          exact hg
      · skip
        have k3 := b2i_0.mp c34
        refine r_aload_n (pc := 37) dX11_roll_37 rfl ?_
        refine r_iconst (pc := 38) (v := 1) dX11_roll_38 (by decide) ?_
        refine r_Vi (pc := 39) (μ' := mX11_error) dX11_roll_39 nX11_88 iX11_error vX11_error kX11_error rfl rfl (rr (by decide) rfl) rfl ⟨Nat.zero_le _, Nat.zero_le _⟩ (fun g' q => ct_G_error (P' := fun g2 => Q (some (.int (-1000000000 - 1))) g2) q.1 (fun g2 x y => e1 (by first | (rw [k1]; rfl) | (rw [k1, k2]; rfl) | (rw [k1, k2, k3]; rfl)) g2 x (q.2.tr y))) ?_
        refine r_ireturn (pc := 42) (ty := .int) dX11_roll_42 rfl rfl ⟨Nat.zero_le _, Nat.zero_le _⟩ (fun gE hg => ?_)
        exact hg
end Meth9
