/-! THE WHOLE (OneGoCeiling): done -/
section Tho7
variable {θ ε td s : Nat} {be : Int32} {K K2 : CK} {sp pl bs sb sw sx lD lL tp wa : List Int32} {hs : List (Nat × Nat)} {z : Int32} {g h : AH} {P' : AH → Prop}
set_option maxHeartbeats 4000000 in
theorem ct_Th_begin2 (hT : ThK θ ε be K2 sp pl bs sb sw sx g) (hN : StK s K hs lD lL tp wa z g) (hd : θ + 18 ≤ s ∨ s + 25 ≤ θ) (hP : ∀ g', ThK θ ε be (noCan K) sp pl bs sb sw sx g' → Off θ 18 g g' → P' g') : CV 4 0 0 mX9_begin θ [.ref s] g (fun v g' => v = none ∧ P' g') := by
  refine ⟨hT.V, ?_⟩
  refine ct_of (by decide) (fun _ _ => Nat.le_of_ble_eq_true rfl) ?_
  dsimp only [pad, ent]
  have hn : ∀ g', Off θ 18 g g' → StK s K hs lD lL tp wa z g' := fun g' o => StAt.same hN (o.same (by omega))
  refine aw_P (P' := fun g' => ThK θ ε be K2 sp pl bs sb sw sx g' ∧ Off θ 18 g g') (fun g' e => by subst e; exact ⟨hT, Off.rf _ _ _⟩) ?_
  refine r_aload_n (pc := 0) dX9_begin_0 rfl ?_
  refine r_getf (pc := 1) (k := 1) dX9_begin_1 hX9 eX9 (by decide) fX9_10 (fun _ q => q.1.o) rfl ?_
  refine r_aload_n (pc := 4) dX9_begin_4 rfl ?_
  refine r_getf (pc := 5) (k := 0) dX9_begin_5 hX7 eX7 (by decide) fX9_48 (fun _ q => StAt.o (hn _ q.2)) rfl ?_
  refine r_Vv (pc := 8) (μ' := mX0_take) dX9_begin_8 nX9_51 iX0_take vX0_take kX0_take rfl rfl (rr (by decide) rfl) rfl ⟨Nat.zero_le _, Nat.zero_le _⟩ (fun g' q => ct_Ceil_take (q.1.2.1 : CeilI _ _ _ _ _ _ _ _ _ _ _ _) (StAt.Ci (hn _ q.2)) (by omega) (fun g2 x y => hP g2 (q.1.setC (K2 := noCan K) x y) (q.2.tr (y.wide (by omega) (by omega))))) ?_
  refine r_return (pc := 11) dX9_begin_11 rfl ⟨Nat.zero_le _, Nat.zero_le _⟩ (fun gE hg => ?_)
  exact ⟨rfl, hg⟩
set_option maxHeartbeats 4000000 in
theorem ct_Th_rollAll2 {i : Nat} (hT : ThK θ ε be K2 sp pl bs sb sw sx g) (hN : StK s K hs lD lL tp wa z g) (hd : θ + 18 ≤ s ∨ s + 25 ≤ θ) (ok : KOk K) (hok : HOk hs) (hi : i < hs.length) (hP : ∀ g', ThK θ ε be (rollsN (hKd hs i) (hMn hs i) (noCan K) (kSt K)) sp pl bs sb sw sx g' → Off θ 18 g g' → P' g') : CV 5 0 0 mX9_rollAll θ [.ref s, .int (nI i)] g (fun v g' => v = none ∧ P' g') := by
  refine ⟨hT.V, ?_⟩
  refine ct_of (by decide) (fun _ _ => Nat.le_of_ble_eq_true rfl) ?_
  dsimp only [pad, ent]
  have hst : 1 ≤ kSt K ∧ kSt K ≤ 6 := ok.2.1
  have hTs := nI_T (n := kSt K) (by omega)
  have hn : ∀ g', Off θ 18 g g' → StK s K hs lD lL tp wa z g' := fun g' o => StAt.same hN (o.same (by omega))
  have L : ∀ (k : Nat), k ≤ kSt K → AW (fun _ => True) (rmd 5 0 0) mX9_rollAll 0 0 7 [some (.ref θ), some (.ref s), some (.int (nI i)), some (.int (nI k))] [] (fun g' => ThK θ ε be (rollsN (hKd hs i) (hMn hs i) (noCan K) k) sp pl bs sb sw sx g' ∧ Off θ 18 g g') (fun v g' => v = none ∧ P' g') := by
    refine up_loop ?_ ?_
    · have hr := (rollsN_ok (kd := hKd hs i) (m := hMn hs i) (noCan_ok ok) (kSt K)).2.2.1
      refine r_iload_n (pc := 7) dX9_rollAll_7 rfl ?_
      refine r_aload_n (pc := 8) dX9_rollAll_8 rfl ?_
      refine r_getf (pc := 9) (k := 1) dX9_rollAll_9 hX9 eX9 (by decide) fX9_10 (fun _ q => q.1.o) rfl ?_
      refine r_Vi (pc := 12) (μ' := mX0_strips) dX9_rollAll_12 nX9_55 iX0_strips vX0_strips kX0_strips rfl rfl (rr (by decide) rfl) rfl ⟨Nat.zero_le _, Nat.zero_le _⟩ (fun g' q => ct_Ceil_strips (q.1.2.1 : CeilI _ _ _ _ _ _ _ _ _ _ _ _) q) ?_
      rw [show nI (rollsN (hKd hs i) (hMn hs i) (noCan K) (kSt K)).2.1 = nI (kSt K) from congrArg nI hr]
      refine r_icmp_ge (pc := 15) 31 dX9_rollAll_15 (by decide) (fun c15 => ?_) (fun c15 => ?_)
      · skip
        refine r_return (pc := 31) dX9_rollAll_31 rfl ⟨Nat.zero_le _, Nat.zero_le _⟩ (fun gE hg => ?_)
        exact ⟨rfl, hP _ hg.1 hg.2⟩
      · skip
        exact absurd (fa_le.mpr (Int.le_refl _)) c15
    · intro k hk ih
      have hTk := nI_T (n := k) (by omega)
      obtain ⟨ok2, -, hr, -⟩ := rollsN_ok (kd := hKd hs i) (m := hMn hs i) (noCan_ok ok) k
      have hr2 : kSt (rollsN (hKd hs i) (hMn hs i) (noCan K) k) = kSt K := hr
      refine r_iload_n (pc := 7) dX9_rollAll_7 rfl ?_
      refine r_aload_n (pc := 8) dX9_rollAll_8 rfl ?_
      refine r_getf (pc := 9) (k := 1) dX9_rollAll_9 hX9 eX9 (by decide) fX9_10 (fun _ q => q.1.o) rfl ?_
      refine r_Vi (pc := 12) (μ' := mX0_strips) dX9_rollAll_12 nX9_55 iX0_strips vX0_strips kX0_strips rfl rfl (rr (by decide) rfl) rfl ⟨Nat.zero_le _, Nat.zero_le _⟩ (fun g' q => ct_Ceil_strips (q.1.2.1 : CeilI _ _ _ _ _ _ _ _ _ _ _ _) q) ?_
      rw [show nI (rollsN (hKd hs i) (hMn hs i) (noCan K) k).2.1 = nI (kSt K) from congrArg nI hr]
      refine r_icmp_ge (pc := 15) 31 dX9_rollAll_15 (by decide) (fun c15 => ?_) (fun c15 => ?_)
      · skip
        exact absurd c15 (fun q => by have := fa_le.mp q; omega)
      · skip
        refine r_aload_n (pc := 18) dX9_rollAll_18 rfl ?_
        refine r_aload_n (pc := 19) dX9_rollAll_19 rfl ?_
        refine r_iload_n (pc := 20) dX9_rollAll_20 rfl ?_
        refine r_iload_n (pc := 21) dX9_rollAll_21 rfl ?_
        refine r_Vv (pc := 22) (μ' := mX9_rollNext) dX9_rollAll_22 nX9_79 iX9_rollNext vX9_rollNext kX9_rollNext rfl rfl (rr (by decide) rfl) rfl ⟨Nat.zero_le _, Nat.zero_le _⟩ (fun g' q => ct_Th_rollNext (P' := fun g2 => ThK θ ε be (rollsN (hKd hs i) (hMn hs i) (noCan K) (k + 1)) sp pl bs sb sw sx g2 ∧ Off θ 18 g g2) q.1 (hn g' q.2) hd ok2 hok hi (by omega) (fun g2 a b => ⟨by rw [hr2, Nat.mod_eq_of_lt hk] at a; exact a, q.2.tr b⟩)) ?_
        refine r_iinc1 (pc := 25) dX9_rollAll_25 rfl (Nat.le_of_ble_eq_true rfl) rfl ?_
        dsimp only [lset]
        refine r_goto (pc := 28) 7 dX9_rollAll_28 (by decide) ?_
        rw [nI_s]
        exact ih
  refine aw_P (P' := fun g' => ThK θ ε be K2 sp pl bs sb sw sx g' ∧ Off θ 18 g g') (fun g' e => by subst e; exact ⟨hT, Off.rf _ _ _⟩) ?_
  refine r_aload_n (pc := 0) dX9_rollAll_0 rfl ?_
  refine r_aload_n (pc := 1) dX9_rollAll_1 rfl ?_
  refine r_Vv (pc := 2) (μ' := mX9_begin) dX9_rollAll_2 nX9_75 iX9_begin vX9_begin kX9_begin rfl rfl (rr (by decide) rfl) rfl ⟨Nat.zero_le _, Nat.zero_le _⟩ (fun g' q => ct_Th_begin2 (P' := fun g2 => ThK θ ε be (noCan K) sp pl bs sb sw sx g2 ∧ Off θ 18 g g2) q.1 (hn g' q.2) hd (fun g2 a b => ⟨a, q.2.tr b⟩)) ?_
  refine r_iconst (pc := 5) (v := 0) dX9_rollAll_5 (by decide) ?_
  refine r_istore_n (pc := 6) dX9_rollAll_6 rfl (Nat.le_of_ble_eq_true rfl) rfl ?_
  dsimp only [lset]
  exact L 0 (Nat.zero_le _)
end Tho7
section Meth7
variable {o : Nat} {K K9 R : CK} {hs hs9 : List (Nat × Nat)} {lD lL tp wa hd er sp pl bs sb sw sx : List Int32} {z im be : Int32} {k : NS} {bt : Nat → Int32} {sh : Nat → List Int32} {h g : AH} {Q : Option Value → AH → Prop} {P' : AH → Prop}
theorem sheet_in {i : Nat} (q : GA o K hs lD lL tp wa z k bt sh hd er im g) (hi : i < 4) (hP : P' g) : CV 1 0 0 mX11_sheetOf o [.int (nI i)] g (fun v g' => v = some (.ref (o + 81 + 3 * i)) ∧ P' g') := by
  have hT := nI_T (n := i) (by omega)
  have r := ct_G_sheetOf (i := nI i) q hP
  rw [if_pos (by omega), hT, Int.toNat_natCast] at r
  exact r
theorem sheet_out {a : Int32} (q : GA o K hs lD lL tp wa z k bt sh hd er im g) (hi : ¬ (0 ≤ a.toInt ∧ a.toInt < 4)) (hP : P' g) : CV 1 0 0 mX11_sheetOf o [.int a] g (fun v g' => v = some .null ∧ P' g') := by
  have r := ct_G_sheetOf (i := a) q hP
  rw [if_neg hi] at r
  exact r
end Meth7
