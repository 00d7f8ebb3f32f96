/-! THE WHOLE (OneGoCeiling): hands -/
def kmB (a : Int32) : Bool := decide (0 ≤ a.toInt ∧ a.toInt < 70)
theorem km_t {a : Int32} (h : kmB a = true) : ∃ n, a = nI n ∧ n < 70 := by
  have h2 := of_decide_eq_true h
  exact ⟨a.toInt.toNat, (nI_tn (by omega) (by omega)).symm, by omega⟩
section Meth3
variable {o : Nat} {K K9 : CK} {hs hs9 : List (Nat × Nat)} {lD lL tp wa hd er : List Int32} {z im : Int32} {k : NS} {bt : Nat → Int32} {sh : Nat → List Int32} {h g : AH} {Q : Option Value → AH → Prop}
set_option maxHeartbeats 8000000 in
theorem ct_G_hand {a : Int32} (q : GA o K hs lD lL tp wa z k bt sh hd er im g) (ok : HOk hs) (e1 : kmB a = false → ∀ g', GA o K hs lD lL tp wa z k bt sh hd (errL er 1) im g' → Off o 95 g g' → Q (some (.int (-1000000000 - 1))) g') (e4 : kmB a = true → hs.length = 6 → ∀ g', GA o K hs lD lL tp wa z k bt sh hd (errL er 4) im g' → Off o 95 g g' → Q (some (.int (-1000000000 - 4))) g') (hP : ∀ n, a = nI n → n < 70 → hs.length < 6 → ∀ g', GA o K (hs ++ [(n / 10, n % 10)]) lD lL tp wa z k bt sh hd er im g' → Off o 95 g g' → Q (some (.int (nI hs.length))) g') : CV 4 0 0 mX11_hand o [.int a] g Q := by
  refine ⟨q.V, ?_⟩
  refine ct_of (by decide) (fun _ _ => Nat.le_of_ble_eq_true rfl) ?_
  dsimp only [pad, ent]
  have hlen := ok.1
  refine aw_P (P' := fun g' => GA o K hs lD lL tp wa z k bt sh hd er im g' ∧ Off o 95 g g') (fun g' e => by subst e; exact ⟨q, Off.rf _ _ _⟩) ?_
  refine r_iload_n (pc := 0) dX11_hand_0 rfl ?_
  refine r_Sp (pc := 1) (μ' := mX3_isKindAndNumber) dX11_hand_1 nX11_135 sX3_isKindAndNumber kX3_isKindAndNumber rfl rfl (rr (by decide) rfl) rfl ⟨Nat.zero_le _, Nat.zero_le _⟩ (fun h => ct_Kinds_isKM h) ?_
  refine r_if_ne (pc := 4) 13 dX11_hand_4 (by decide) (fun c4 => ?_) (fun c4 => ?_)
  · skip
    have k1 : kmB a = true := b2i_n0.mp c4
    refine r_aload_n (pc := 13) dX11_hand_13 rfl ?_
    refine r_getf (pc := 14) (k := 0) dX11_hand_14 hX11 eX11 (by decide) fX11_10 (fun _ q => q.1.oo) rfl ?_
    refine r_getf (pc := 17) (k := 1) dX11_hand_17 hX7 eX7 (by decide) fX11_140 (fun _ q => q.1.s) rfl ?_
    refine r_Vi (pc := 20) (μ' := mX1_isFull) dX11_hand_20 nX11_144 iX1_isFull vX1_isFull kX1_isFull rfl rfl (rr (by decide) rfl) rfl ⟨Nat.zero_le _, Nat.zero_le _⟩ (fun g' q => ct_Crew_isFull q.1.W q) ?_
    refine r_if_eq (pc := 23) 32 dX11_hand_23 (by decide) (fun c23 => ?_) (fun c23 => ?_)
    · skip
      have k2 := of_decide_eq_false (b2i_0.mp c23)
      rw [List.length_map] at k2
      obtain ⟨n, hn, hn2⟩ := km_t k1
      have h7 := hP n hn hn2 (by omega)
      have hl9 : hs.length < 6 := by omega
      have hj : nI (addL 6 (hs.map fun q => nI q.1) (a / 10)).length - 1 = nI hs.length := by unfold addL; rw [List.length_map, if_pos hl9, List.length_append, List.length_map]; exact nI_pred hs.length
      refine r_aload_n (pc := 32) dX11_hand_32 rfl ?_
      refine r_getf (pc := 33) (k := 0) dX11_hand_33 hX11 eX11 (by decide) fX11_10 (fun _ q => q.1.oo) rfl ?_
      refine r_getf (pc := 36) (k := 1) dX11_hand_36 hX7 eX7 (by decide) fX11_140 (fun _ q => q.1.s) rfl ?_
      refine r_iload_n (pc := 39) dX11_hand_39 rfl ?_
      refine r_Vi (pc := 40) (μ' := mX1_join) dX11_hand_40 nX11_150 iX1_join vX1_join kX1_join rfl rfl (rr (by decide) rfl) rfl ⟨Nat.zero_le _, Nat.zero_le _⟩ (fun g' q => ct_Crew_join (P' := fun g2 => Q (some (.int (nI hs.length))) g2) q.1.W (fun g2 x y => h7 g2 (q.1.setW (by
            unfold addL at x
            rw [List.length_map, List.length_map, if_pos hl9, if_pos hl9, hn, (km_is n hn2).1, (km_is n hn2).2] at x
            rw [List.map_append, List.map_append]
            exact x) y) (q.2.tr (y.wide (by omega) (by omega))))) ?_
      rw [hj]
      refine r_ireturn (pc := 43) (ty := .int) dX11_hand_43 rfl rfl ⟨Nat.zero_le _, Nat.zero_le _⟩ (fun gE hg => ?_)
      exact hg
    · skip
      have k2 := of_decide_eq_true (b2i_n0.mp c23)
      rw [List.length_map] at k2
      refine r_aload_n (pc := 26) dX11_hand_26 rfl ?_
      refine r_iconst (pc := 27) (v := 4) dX11_hand_27 (by decide) ?_
      refine r_Vi (pc := 28) (μ' := mX11_error) dX11_hand_28 nX11_88 iX11_error vX11_error kX11_error rfl rfl (rr (by decide) rfl) rfl ⟨Nat.zero_le _, Nat.zero_le _⟩ (fun g' q => ct_G_error (P' := fun g2 => Q (some (.int (-1000000000 - 4))) g2) q.1 (fun g2 a b => e4 k1 k2 g2 a (q.2.tr b))) ?_
      refine r_ireturn (pc := 31) (ty := .int) dX11_hand_31 rfl rfl ⟨Nat.zero_le _, Nat.zero_le _⟩ (fun gE hg => ?_)
      exact hg
  · skip
    have k1 : kmB a = false := b2i_0.mp c4
    refine r_aload_n (pc := 7) dX11_hand_7 rfl ?_
    refine r_iconst (pc := 8) (v := 1) dX11_hand_8 (by decide) ?_
    refine r_Vi (pc := 9) (μ' := mX11_error) dX11_hand_9 nX11_88 iX11_error vX11_error kX11_error rfl rfl (rr (by decide) rfl) rfl ⟨Nat.zero_le _, Nat.zero_le _⟩ (fun g' q => ct_G_error (P' := fun g2 => Q (some (.int (-1000000000 - 1))) g2) q.1 (fun g2 a b => e1 (by first | exact k1 | (rw [k1]; rfl)) g2 a (q.2.tr b))) ?_
    refine r_ireturn (pc := 12) (ty := .int) dX11_hand_12 rfl rfl ⟨Nat.zero_le _, Nat.zero_le _⟩ (fun gE hg => ?_)
    exact hg
set_option maxHeartbeats 8000000 in
theorem ct_G_become {a b : Int32} (q : GA o K hs lD lL tp wa z k bt sh hd er im g) (ok : HOk hs) (e1 : (hdB hs a && kmB b) = false → ∀ g', GA o K hs lD lL tp wa z k bt sh hd (errL er 1) im g' → Off o 95 g g' → Q (some (.int (-1000000000 - 1))) g') (hP : ∀ i n, a = nI i → i < hs.length → b = nI n → n < 70 → ∀ g', GA o K (hs.set i (n / 10, n % 10)) lD lL tp wa z k bt sh hd er im g' → Off o 95 g g' → Q (some (.int (nI (hKd hs i)))) g') : CV 4 0 0 mX11_become o [.int a, .int b] g Q := by
  refine ⟨q.V, ?_⟩
  refine ct_of (by decide) (fun _ _ => Nat.le_of_ble_eq_true rfl) ?_
  dsimp only [pad, ent]
  have hlen := ok.1
  refine aw_P (P' := fun g' => GA o K hs lD lL tp wa z k bt sh hd er im g' ∧ Off o 95 g g') (fun g' e => by subst e; exact ⟨q, Off.rf _ _ _⟩) ?_
  refine r_aload_n (pc := 0) dX11_become_0 rfl ?_
  refine r_getf (pc := 1) (k := 0) dX11_become_1 hX11 eX11 (by decide) fX11_10 (fun _ q => q.1.oo) rfl ?_
  refine r_getf (pc := 4) (k := 1) dX11_become_4 hX7 eX7 (by decide) fX11_140 (fun _ q => q.1.s) rfl ?_
  refine r_iload_n (pc := 7) dX11_become_7 rfl ?_
  refine r_Vi (pc := 8) (μ' := mX1_has) dX11_become_8 nX11_153 iX1_has vX1_has kX1_has rfl rfl (rr (by decide) rfl) rfl ⟨Nat.zero_le _, Nat.zero_le _⟩ (fun g' q => ct_Crew_has q.1.W q) ?_
  refine r_if_eq (pc := 11) 21 dX11_become_11 (by decide) (fun c11 => ?_) (fun c11 => ?_)
  · skip
    have k1 : hdB hs a = false := b2i_0.mp c11
    refine r_aload_n (pc := 21) dX11_become_21 rfl ?_
    refine r_iconst (pc := 22) (v := 1) dX11_become_22 (by decide) ?_
    refine r_Vi (pc := 23) (μ' := mX11_error) dX11_become_23 nX11_88 iX11_error vX11_error kX11_error rfl rfl (rr (by decide) rfl) rfl ⟨Nat.zero_le _, Nat.zero_le _⟩ (fun g' q => ct_G_error (P' := fun g2 => Q (some (.int (-1000000000 - 1))) g2) q.1 (fun g2 a b => e1 (by first | (rw [k1]; rfl) | (rw [k1, k2]; rfl)) g2 a (q.2.tr b))) ?_
    refine r_ireturn (pc := 26) (ty := .int) dX11_become_26 rfl rfl ⟨Nat.zero_le _, Nat.zero_le _⟩ (fun gE hg => ?_)
    exact hg
  · skip
    have k1 : hdB hs a = true := b2i_n0.mp c11
    refine r_iload_n (pc := 14) dX11_become_14 rfl ?_
    refine r_Sp (pc := 15) (μ' := mX3_isKindAndNumber) dX11_become_15 nX11_135 sX3_isKindAndNumber kX3_isKindAndNumber rfl rfl (rr (by decide) rfl) rfl ⟨Nat.zero_le _, Nat.zero_le _⟩ (fun h => ct_Kinds_isKM h) ?_
    refine r_if_ne (pc := 18) 27 dX11_become_18 (by decide) (fun c18 => ?_) (fun c18 => ?_)
    · skip
      have k2 : kmB b = true := b2i_n0.mp c18
      obtain ⟨i, hi, hi2⟩ := hd_t k1 ok
      obtain ⟨n, hn, hn2⟩ := km_t k2
      have h7 := hP i n hi hi2 hn hn2
      have hj : atL (hs.map fun q => nI q.1) a = nI (hKd hs i) := by rw [hi]; exact hs_k hi2 hlen
      refine r_aload_n (pc := 27) dX11_become_27 rfl ?_
      refine r_getf (pc := 28) (k := 0) dX11_become_28 hX11 eX11 (by decide) fX11_10 (fun _ q => q.1.oo) rfl ?_
      refine r_getf (pc := 31) (k := 1) dX11_become_31 hX7 eX7 (by decide) fX11_140 (fun _ q => q.1.s) rfl ?_
      refine r_iload_n (pc := 34) dX11_become_34 rfl ?_
      refine r_iload_n (pc := 35) dX11_become_35 rfl ?_
      refine r_Vi (pc := 36) (μ' := mX1_turnInto) dX11_become_36 nX11_171 iX1_turnInto vX1_turnInto kX1_turnInto rfl rfl (rr (by decide) rfl) rfl ⟨Nat.zero_le _, Nat.zero_le _⟩ (fun g' q => ct_Crew_turnInto (P' := fun g2 => Q (some (.int (nI (hKd hs i)))) g2) q.1.W (fun g2 x y => h7 g2 (q.1.setW (by
            rw [hi, hn, wrL_nI (by omega), wrL_nI (by omega), (km_is n hn2).1, (km_is n hn2).2] at x
            rw [List.map_set, List.map_set]
            exact x) y) (q.2.tr (y.wide (by omega) (by omega))))) ?_
      rw [hj]
      refine r_ireturn (pc := 39) (ty := .int) dX11_become_39 rfl rfl ⟨Nat.zero_le _, Nat.zero_le _⟩ (fun gE hg => ?_)
      exact hg
    · skip
      have k2 : kmB b = false := b2i_0.mp c18
      refine r_aload_n (pc := 21) dX11_become_21 rfl ?_
      refine r_iconst (pc := 22) (v := 1) dX11_become_22 (by decide) ?_
      refine r_Vi (pc := 23) (μ' := mX11_error) dX11_become_23 nX11_88 iX11_error vX11_error kX11_error rfl rfl (rr (by decide) rfl) rfl ⟨Nat.zero_le _, Nat.zero_le _⟩ (fun g' q => ct_G_error (P' := fun g2 => Q (some (.int (-1000000000 - 1))) g2) q.1 (fun g2 a b => e1 (by first | (rw [k1]; rfl) | (rw [k1, k2]; rfl)) g2 a (q.2.tr b))) ?_
      refine r_ireturn (pc := 26) (ty := .int) dX11_become_26 rfl rfl ⟨Nat.zero_le _, Nat.zero_le _⟩ (fun gE hg => ?_)
      exact hg
set_option maxHeartbeats 8000000 in
theorem ct_G_as {a b : Int32} (q : GA o K hs lD lL tp wa z k bt sh hd er im g) (ok : HOk hs) (e1 : (hdB hs a && decide (0 ≤ b.toInt ∧ b.toInt < 7)) = false → ∀ g', GA o K hs lD lL tp wa z k bt sh hd (errL er 1) im g' → Off o 95 g g' → Q (some (.int (-1000000000 - 1))) g') (e5 : ∀ i, a = nI i → i < hs.length → 0 ≤ b.toInt ∧ b.toInt < 7 → undI 7 (nI (hKd hs i)) b = false → ∀ g', GA o K hs lD lL tp wa z k bt sh hd (errL er 5) im g' → Off o 95 g g' → Q (some (.int (-1000000000 - 5))) g') (hP : ∀ i, a = nI i → i < hs.length → 0 ≤ b.toInt ∧ b.toInt < 7 → undI 7 (nI (hKd hs i)) b = true → ∀ g', GA o K hs lD lL tp wa z k bt sh hd er im g' → Off o 95 g g' → Q (some (.int (nI (hMn hs i)))) g') : CV 4 0 0 mX11_as o [.int a, .int b] g Q := by
  refine ⟨q.V, ?_⟩
  refine ct_of (by decide) (fun _ _ => Nat.le_of_ble_eq_true rfl) ?_
  dsimp only [pad, ent]
  have hlen := ok.1
  refine aw_P (P' := fun g' => GA o K hs lD lL tp wa z k bt sh hd er im g' ∧ Off o 95 g g') (fun g' e => by subst e; exact ⟨q, Off.rf _ _ _⟩) ?_
  refine r_aload_n (pc := 0) dX11_as_0 rfl ?_
  refine r_getf (pc := 1) (k := 0) dX11_as_1 hX11 eX11 (by decide) fX11_10 (fun _ q => q.1.oo) rfl ?_
  refine r_getf (pc := 4) (k := 1) dX11_as_4 hX7 eX7 (by decide) fX11_140 (fun _ q => q.1.s) rfl ?_
  refine r_iload_n (pc := 7) dX11_as_7 rfl ?_
  refine r_Vi (pc := 8) (μ' := mX1_has) dX11_as_8 nX11_153 iX1_has vX1_has kX1_has rfl rfl (rr (by decide) rfl) rfl ⟨Nat.zero_le _, Nat.zero_le _⟩ (fun g' q => ct_Crew_has q.1.W q) ?_
  refine r_if_eq (pc := 11) 21 dX11_as_11 (by decide) (fun c11 => ?_) (fun c11 => ?_)
  · skip
    have k1 : hdB hs a = false := b2i_0.mp c11
    refine r_aload_n (pc := 21) dX11_as_21 rfl ?_
    refine r_iconst (pc := 22) (v := 1) dX11_as_22 (by decide) ?_
    refine r_Vi (pc := 23) (μ' := mX11_error) dX11_as_23 nX11_88 iX11_error vX11_error kX11_error rfl rfl (rr (by decide) rfl) rfl ⟨Nat.zero_le _, Nat.zero_le _⟩ (fun g' q => ct_G_error (P' := fun g2 => Q (some (.int (-1000000000 - 1))) g2) q.1 (fun g2 a b => e1 (by first | (rw [k1]; rfl) | (rw [k1, k2]; rfl)) g2 a (q.2.tr b))) ?_
    refine r_ireturn (pc := 26) (ty := .int) dX11_as_26 rfl rfl ⟨Nat.zero_le _, Nat.zero_le _⟩ (fun gE hg => ?_)
    exact hg
  · skip
    have k1 : hdB hs a = true := b2i_n0.mp c11
    refine r_iload_n (pc := 14) dX11_as_14 rfl ?_
    refine r_Sp (pc := 15) (μ' := mX3_isKind) dX11_as_15 nX11_174 sX3_isKind kX3_isKind rfl rfl (rr (by decide) rfl) rfl ⟨Nat.zero_le _, Nat.zero_le _⟩ (fun h => ct_Kinds_isKind h) ?_
    refine r_if_ne (pc := 18) 27 dX11_as_18 (by decide) (fun c18 => ?_) (fun c18 => ?_)
    · skip
      have k2 := b2i_n0.mp c18
      have k3 := of_decide_eq_true k2
      obtain ⟨i, hi, hi2⟩ := hd_t k1 ok
      refine r_aload_n (pc := 27) dX11_as_27 rfl ?_
      refine r_getf (pc := 28) (k := 0) dX11_as_28 hX11 eX11 (by decide) fX11_10 (fun _ q => q.1.oo) rfl ?_
      refine r_getf (pc := 31) (k := 1) dX11_as_31 hX7 eX7 (by decide) fX11_140 (fun _ q => q.1.s) rfl ?_
      refine r_iload_n (pc := 34) dX11_as_34 rfl ?_
      refine r_Vi (pc := 35) (μ' := mX1_kindOf) dX11_as_35 nX11_156 iX1_kindOf vX1_kindOf kX1_kindOf rfl rfl (rr (by decide) rfl) rfl ⟨Nat.zero_le _, Nat.zero_le _⟩ (fun g' q => ct_Crew_kindOf q.1.W q) ?_
      rw [hi, hs_k hi2 hlen]
      refine r_iload_n (pc := 38) dX11_as_38 rfl ?_
      refine r_Sp (pc := 39) (μ' := mX3_isUnder) dX11_as_39 nX11_177 sX3_isUnder kX3_isUnder rfl rfl (rr (by decide) rfl) rfl ⟨Nat.zero_le _, Nat.zero_le _⟩ (fun h => ct_Kinds_isUnder h) ?_
      refine r_if_ne (pc := 42) 51 dX11_as_42 (by decide) (fun c42 => ?_) (fun c42 => ?_)
      · skip
        have k4 := b2i_n0.mp c42
        refine r_aload_n (pc := 51) dX11_as_51 rfl ?_
        refine r_getf (pc := 52) (k := 0) dX11_as_52 hX11 eX11 (by decide) fX11_10 (fun _ q => q.1.oo) rfl ?_
        refine r_getf (pc := 55) (k := 1) dX11_as_55 hX7 eX7 (by decide) fX11_140 (fun _ q => q.1.s) rfl ?_
        refine r_iload_n (pc := 58) dX11_as_58 rfl ?_
        refine r_Vi (pc := 59) (μ' := mX1_numberOf) dX11_as_59 nX11_159 iX1_numberOf vX1_numberOf kX1_numberOf rfl rfl (rr (by decide) rfl) rfl ⟨Nat.zero_le _, Nat.zero_le _⟩ (fun g' q => ct_Crew_numberOf q.1.W q) ?_
        rw [hs_m hi2 hlen]
        refine r_ireturn (pc := 62) (ty := .int) dX11_as_62 rfl rfl ⟨Nat.zero_le _, Nat.zero_le _⟩ (fun gE hg => ?_)
        exact hP i hi hi2 k3 k4 _ hg.1 hg.2
      · skip
        have k4 := b2i_0.mp c42
        refine r_aload_n (pc := 45) dX11_as_45 rfl ?_
        refine r_iconst (pc := 46) (v := 5) dX11_as_46 (by decide) ?_
        refine r_Vi (pc := 47) (μ' := mX11_error) dX11_as_47 nX11_88 iX11_error vX11_error kX11_error rfl rfl (rr (by decide) rfl) rfl ⟨Nat.zero_le _, Nat.zero_le _⟩ (fun g' q => ct_G_error (P' := fun g2 => Q (some (.int (-1000000000 - 5))) g2) q.1 (fun g2 x y => e5 i hi hi2 k3 k4 g2 x (q.2.tr y))) ?_
        refine r_ireturn (pc := 50) (ty := .int) dX11_as_50 rfl rfl ⟨Nat.zero_le _, Nat.zero_le _⟩ (fun gE hg => ?_)
        exact hg
    · skip
      have k2 := b2i_0.mp c18
      refine r_aload_n (pc := 21) dX11_as_21 rfl ?_
      refine r_iconst (pc := 22) (v := 1) dX11_as_22 (by decide) ?_
      refine r_Vi (pc := 23) (μ' := mX11_error) dX11_as_23 nX11_88 iX11_error vX11_error kX11_error rfl rfl (rr (by decide) rfl) rfl ⟨Nat.zero_le _, Nat.zero_le _⟩ (fun g' q => ct_G_error (P' := fun g2 => Q (some (.int (-1000000000 - 1))) g2) q.1 (fun g2 a b => e1 (by first | (rw [k1]; rfl) | (rw [k1, k2]; rfl)) g2 a (q.2.tr b))) ?_
      refine r_ireturn (pc := 26) (ty := .int) dX11_as_26 rfl rfl ⟨Nat.zero_le _, Nat.zero_le _⟩ (fun gE hg => ?_)
      exact hg
end Meth3
