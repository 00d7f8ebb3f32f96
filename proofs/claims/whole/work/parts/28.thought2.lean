/-! WHAT WOULD BE (OneGoCeiling$Thought): orders told, pauses -/
theorem sbN_le {K : CK} {dr : Nat → Nat → Nat} {lt : Nat → Nat → Nat → Nat} (h : ∀ a b d, lt a b d ≤ 99) (s p q n k : Nat) : sbN K dr lt s p q n k ≤ 99 * k := by
  induction k with
  | zero => exact Nat.le_refl _
  | succ k ih =>
    rw [sbN]
    have := h k s (absD (vE K k p) (vE K k q))
    split <;> omega
theorem ltL_le (l : List Int32) (a b d : Nat) : ltL l a b d ≤ 99 := (lawN_ok 1 l a b d).2
/-- what is seen between STRIPS s and s + 1, rolled p-th and q-th, a pause later -/
def SB (K : CK) (lD lL : List Int32) (s p q n : Nat) : Nat := sbN K (drL lD (kHe K)) (ltL lL) s p q n (kRo K)
theorem SB_le {K : CK} (ok : KOk K) (lD lL : List Int32) (s p q n : Nat) : SB K lD lL s p q n ≤ 600 := by
  have := sbN_le (K := K) (dr := drL lD (kHe K)) (ltL_le lL) s p q n (kRo K)
  have hro : kRo K ≤ 6 := ok.1.2
  unfold SB; omega
def tkO (o : List Int32) (n : Nat) : Nat → Option (List Int32)
  | 0 => some (List.replicate n (-1))
  | k + 1 => match tkO o n k with
    | none => none
    | some pl => if hasL pl (atL o (nI k)) = true ∧ atL pl (atL o (nI k)) = -1 then some (wrL pl (atL o (nI k)) (nI k)) else none
theorem tkO_none {o : List Int32} {n k : Nat} (h : tkO o n k = none) : ∀ m, k ≤ m → tkO o n m = none := by
  intro m hm
  induction m with
  | zero => have : k = 0 := by omega
            subst this; exact h
  | succ m ih =>
    by_cases e : k = m + 1
    · subst e; exact h
    · rw [tkO, ih (by omega)]
section Tho2
variable {θ ε td s r cap : Nat} {be be2 : Int32} {K K2 : CK} {o sp pl bs sb sw sx sp2 pl2 bs2 sb2 sw2 sx2 lD lL tp wa : List Int32} {g h : AH} {P' : AH → Prop}
set_option maxHeartbeats 8000000 in
theorem ct_Th_takeOrder {n : Nat} (hT : ThK θ ε be K sp pl bs sb sw sx g) (hR : RowAt r cap o g) (hd : r + 2 ≤ θ ∨ θ + 18 ≤ r) (hn : n ≤ 6) (hP : ∀ g' pl', (o.length = n → ∀ l, tkO o n n = some l → pl' = l) → ThK θ ε be K sp pl' bs sb sw sx g' → Off θ 18 g g' → P' g') : CV 3 0 0 mX9_takeOrder θ [.ref r, .int (nI n)] g (fun v g' => v = some (.int (b2i (decide (o.length = n ∧ (tkO o n n).isSome)))) ∧ P' g') := by
  refine ⟨hT.V, ?_⟩
  refine ct_of (by decide) (fun _ _ => Nat.le_of_ble_eq_true rfl) ?_
  dsimp only [pad, ent]
  have hTn := nI_T (n := n) (by omega)
  have hlo : o.length ≤ 4000 := Nat.le_trans hR.2.1 hR.2.2.1
  have hTo := nI_T (n := o.length) hlo
  have hr : ∀ g', Off θ 18 g g' → RowAt r cap o g' := fun g' a => hR.off a (by omega)
  have L : o.length = n → ∀ k, k ≤ n → AW (fun _ => True) (rmd 3 0 0) mX9_takeOrder 0 0 21 [some (.ref θ), some (.ref r), some (.int (nI n)), some (.int (nI k)), none] [] (fun g' => ∃ l, tkO o n k = some l ∧ (ThK θ ε be K sp l bs sb sw sx g' ∧ Off θ 18 g g')) (fun v g' => v = some (.int (b2i (decide (o.length = n ∧ (tkO o n n).isSome)))) ∧ P' g') := by
    intro hon
    refine up_loop ?_ ?_
    · refine aw_ex fun l => aw_pr fun he => ?_
      refine r_iload_n (pc := 21) dX9_takeOrder_21 rfl ?_
      refine r_iload_n (pc := 22) dX9_takeOrder_22 rfl ?_
      refine r_icmp_ge (pc := 23) 76 dX9_takeOrder_23 (by decide) (fun c23 => ?_) (fun c23 => ?_)
      · skip
        refine r_iconst (pc := 76) (v := 1) dX9_takeOrder_76 (by decide) ?_
        refine r_ireturn (pc := 77) (ty := .boolean) dX9_takeOrder_77 rfl rfl ⟨Nat.zero_le _, Nat.zero_le _⟩ (fun gE hg => ?_)
        exact ⟨by rw [decide_eq_true ⟨hon, by rw [he]; rfl⟩]; rfl, hP _ l (fun _ l2 e => Option.some.inj (he.symm.trans e)) hg.1 hg.2⟩
      · skip
        exact absurd (fa_le.mpr (Int.le_refl _)) c23
    · intro k hk ih
      refine aw_ex fun l => aw_pr fun he => ?_
      have hTk := nI_T (n := k) (by omega)
      have no : ¬ (hasL l (atL o (nI k)) = true ∧ atL l (atL o (nI k)) = -1) → tkO o n n = none := fun q => tkO_none (k := k + 1) (by rw [tkO, he]; exact if_neg q) n hk
      have dn : tkO o n n = none → (some (.int 0) : Option Value) = some (.int (b2i (decide (o.length = n ∧ (tkO o n n).isSome)))) := fun q => by rw [decide_eq_false (fun x => by rw [q] at x; exact absurd x.2 Bool.false_ne_true)]; rfl
      refine r_iload_n (pc := 21) dX9_takeOrder_21 rfl ?_
      refine r_iload_n (pc := 22) dX9_takeOrder_22 rfl ?_
      refine r_icmp_ge (pc := 23) 76 dX9_takeOrder_23 (by decide) (fun c23 => ?_) (fun c23 => ?_)
      · skip
        exact absurd c23 (fun q => by have := fa_le.mp q; omega)
      · skip
        refine r_aload_n (pc := 26) dX9_takeOrder_26 rfl ?_
        refine r_iload_n (pc := 27) dX9_takeOrder_27 rfl ?_
        refine r_Vi (pc := 28) (μ' := mX5_at) dX9_takeOrder_28 nX9_96 iX5_at vX5_at kX5_at rfl rfl (rr (by decide) rfl) rfl ⟨Nat.zero_le _, Nat.zero_le _⟩ (fun g' q => ct_Row_at (hr _ q.2) q) ?_
        refine r_istore (pc := 31) dX9_takeOrder_31 (Nat.le_of_ble_eq_true rfl) rfl ?_
        dsimp only [lset]
        refine r_aload_n (pc := 33) dX9_takeOrder_33 rfl ?_
        refine r_getf (pc := 34) (k := 3) dX9_takeOrder_34 hX9 eX9 (by decide) fX9_25 (fun _ q => q.1.o) rfl ?_
        refine r_iload (pc := 37) dX9_takeOrder_37 rfl ?_
        refine r_Vi (pc := 39) (μ' := mX5_has) dX9_takeOrder_39 nX9_99 iX5_has vX5_has kX5_has rfl rfl (rr (by decide) rfl) rfl ⟨Nat.zero_le _, Nat.zero_le _⟩ (fun g' q => ct_Row_has q.1.2.2.2.1 q) ?_
        refine r_if_eq (pc := 42) 58 dX9_takeOrder_42 (by decide) (fun c42 => ?_) (fun c42 => ?_)
        · skip
          have q1 := b2i_0.mp c42
          refine r_iconst (pc := 58) (v := 0) dX9_takeOrder_58 (by decide) ?_
          refine r_ireturn (pc := 59) (ty := .boolean) dX9_takeOrder_59 rfl rfl ⟨Nat.zero_le _, Nat.zero_le _⟩ (fun gE hg => ?_)
          first
          | exact ⟨dn (no (fun x => absurd (q1.symm.trans x.1) Bool.false_ne_true)), hP _ l (fun _ l2 e => by rw [no (fun x => absurd (q1.symm.trans x.1) Bool.false_ne_true)] at e; exact absurd e (by simp)) hg.1 hg.2⟩
          | exact ⟨dn (no (fun x => c55 x.2)), hP _ l (fun _ l2 e => by rw [no (fun x => c55 x.2)] at e; exact absurd e (by simp)) hg.1 hg.2⟩
        · skip
          have q1 := b2i_n0.mp c42
          refine r_aload_n (pc := 45) dX9_takeOrder_45 rfl ?_
          refine r_getf (pc := 46) (k := 3) dX9_takeOrder_46 hX9 eX9 (by decide) fX9_25 (fun _ q => q.1.o) rfl ?_
          refine r_iload (pc := 49) dX9_takeOrder_49 rfl ?_
          refine r_Vi (pc := 51) (μ' := mX5_at) dX9_takeOrder_51 nX9_96 iX5_at vX5_at kX5_at rfl rfl (rr (by decide) rfl) rfl ⟨Nat.zero_le _, Nat.zero_le _⟩ (fun g' q => ct_Row_at q.1.2.2.2.1 q) ?_
          refine r_iconst (pc := 54) (v := (-1)) dX9_takeOrder_54 (by decide) ?_
          refine r_icmp_eq (pc := 55) 60 dX9_takeOrder_55 (by decide) (fun c55 => ?_) (fun c55 => ?_)
          · skip
            refine r_aload_n (pc := 60) dX9_takeOrder_60 rfl ?_
            refine r_getf (pc := 61) (k := 3) dX9_takeOrder_61 hX9 eX9 (by decide) fX9_25 (fun _ q => q.1.o) rfl ?_
            refine r_iload (pc := 64) dX9_takeOrder_64 rfl ?_
            refine r_iload_n (pc := 66) dX9_takeOrder_66 rfl ?_
            refine r_Vv (pc := 67) (μ' := mX5_write) dX9_takeOrder_67 nX9_103 iX5_write vX5_write kX5_write rfl rfl (rr (by decide) rfl) rfl ⟨Nat.zero_le _, Nat.zero_le _⟩ (fun g' q => ct_Row_write (P' := fun g2 => ∃ l2, tkO o n (k + 1) = some l2 ∧ (ThK θ ε be K sp l2 bs sb sw sx g2 ∧ Off θ 18 g g2)) q.1.2.2.2.1 (fun g2 a b => ⟨_, by rw [tkO, he]; exact if_pos ⟨q1, c55⟩, q.1.set_pl a b, q.2.tr (b.wide (by omega) (by omega))⟩)) ?_
            refine r_iinc1 (pc := 70) dX9_takeOrder_70 rfl (Nat.le_of_ble_eq_true rfl) rfl ?_
            dsimp only [lset]
            refine r_goto (pc := 73) 21 dX9_takeOrder_73 (by decide) ?_
            rw [nI_s]
            refine aw_dr 4 rfl ?_
            exact ih
          · skip
            refine r_iconst (pc := 58) (v := 0) dX9_takeOrder_58 (by decide) ?_
            refine r_ireturn (pc := 59) (ty := .boolean) dX9_takeOrder_59 rfl rfl ⟨Nat.zero_le _, Nat.zero_le _⟩ (fun gE hg => ?_)
            first
            | exact ⟨dn (no (fun x => absurd (q1.symm.trans x.1) Bool.false_ne_true)), hP _ l (fun _ l2 e => by rw [no (fun x => absurd (q1.symm.trans x.1) Bool.false_ne_true)] at e; exact absurd e (by simp)) hg.1 hg.2⟩
            | exact ⟨dn (no (fun x => c55 x.2)), hP _ l (fun _ l2 e => by rw [no (fun x => c55 x.2)] at e; exact absurd e (by simp)) hg.1 hg.2⟩
  refine aw_P (P' := fun g' => ThK θ ε be K sp pl bs sb sw sx g' ∧ Off θ 18 g g') (fun g' e => by subst e; exact ⟨hT, Off.rf _ _ _⟩) ?_
  refine r_aload_n (pc := 0) dX9_takeOrder_0 rfl ?_
  refine r_Vi (pc := 1) (μ' := mX5_length) dX9_takeOrder_1 nX9_89 iX5_length vX5_length kX5_length rfl rfl (rr (by decide) rfl) rfl ⟨Nat.zero_le _, Nat.zero_le _⟩ (fun g' q => ct_Row_length (hr _ q.2) q) ?_
  refine r_iload_n (pc := 4) dX9_takeOrder_4 rfl ?_
  refine r_icmp_eq (pc := 5) 10 dX9_takeOrder_5 (by decide) (fun c5 => ?_) (fun c5 => ?_)
  · skip
    have hon : o.length = n := by have := fa_eq.mp c5; omega
    refine r_aload_n (pc := 10) dX9_takeOrder_10 rfl ?_
    refine r_getf (pc := 11) (k := 3) dX9_takeOrder_11 hX9 eX9 (by decide) fX9_25 (fun _ q => q.1.o) rfl ?_
    refine r_iload_n (pc := 14) dX9_takeOrder_14 rfl ?_
    refine r_iconst (pc := 15) (v := (-1)) dX9_takeOrder_15 (by decide) ?_
    refine r_Vv (pc := 16) (μ' := mX5_fill) dX9_takeOrder_16 nX9_92 iX5_fill vX5_fill kX5_fill rfl rfl (rr (by decide) rfl) rfl ⟨Nat.zero_le _, Nat.zero_le _⟩ (fun g' q => ct_Row_fill (P' := fun g2 => ∃ l2, tkO o n 0 = some l2 ∧ (ThK θ ε be K sp l2 bs sb sw sx g2 ∧ Off θ 18 g g2)) q.1.2.2.2.1 (fun g2 a b => ⟨_, rfl, q.1.set_pl (by rw [show clampI (nI n) 6 = n by unfold clampI; rw [hTn]; omega] at a; exact a) b, q.2.tr (b.wide (by omega) (by omega))⟩)) ?_
    refine r_iconst (pc := 19) (v := 0) dX9_takeOrder_19 (by decide) ?_
    refine r_istore_n (pc := 20) dX9_takeOrder_20 rfl (Nat.le_of_ble_eq_true rfl) rfl ?_
    dsimp only [lset]
    exact L hon 0 (Nat.zero_le _)
  · skip
    have hon : ¬ o.length = n := fun q => c5 (by rw [q])
    refine r_iconst (pc := 8) (v := 0) dX9_takeOrder_8 (by decide) ?_
    refine r_ireturn (pc := 9) (ty := .boolean) dX9_takeOrder_9 rfl rfl ⟨Nat.zero_le _, Nat.zero_le _⟩ (fun gE hg => ?_)
    exact ⟨by rw [decide_eq_false (fun x => hon x.1)]; rfl, hP _ pl (fun q => absurd q hon) hg.1 hg.2⟩
def soN (K : CK) (lD lL : List Int32) (p : Nat → Nat) : Nat → Nat
  | 0 => 0
  | k + 1 => soN K lD lL p k + SB K lD lL k (p k) (p (k + 1)) 0
set_option maxHeartbeats 8000000 in
theorem ct_Th_seenByOrder {p : Nat → Nat} (hT : TE θ ε td lD lL be K sp pl bs sb sw sx g) (ok : KOk K) (wb : WB K) (hp : ∀ s, s < kSt K → pl.getD s 0 = nI (p s) ∧ p s ≤ 6) (hP : ∀ g', TE θ ε td lD lL be K sp pl bs sb sw sx g' → OffS (eyS ε td) g g' → P' g') : CV 8 0 0 mX9_seenByOrder θ [] g (fun v g' => v = some (.int (nI (soN K lD lL p (kSt K - 1)))) ∧ P' g') := by
  refine ⟨hT.1.V, ?_⟩
  refine ct_of (by decide) (fun _ _ => Nat.le_of_ble_eq_true rfl) ?_
  dsimp only [pad, ent]
  have hst : 1 ≤ kSt K ∧ kSt K ≤ 6 := ok.2.1
  have hTst := nI_T (n := kSt K) (by omega)
  have L : ∀ k, k ≤ kSt K - 1 → AW (fun _ => True) (rmd 8 0 0) mX9_seenByOrder 0 0 4 [some (.ref θ), some (.int (nI (soN K lD lL p k))), some (.int (nI k))] [] (fun g' => TE θ ε td lD lL be K sp pl bs sb sw sx g' ∧ OffS (eyS ε td) g g') (fun v g' => v = some (.int (nI (soN K lD lL p (kSt K - 1)))) ∧ P' g') := by
    refine up_loop ?_ ?_
    · skip
      refine r_iload_n (pc := 4) dX9_seenByOrder_4 rfl ?_
      refine r_iconst (pc := 5) (v := 1) dX9_seenByOrder_5 (by decide) ?_
      refine r_iadd (pc := 6) dX9_seenByOrder_6 ?_
      rw [nI_s, show kSt K - 1 + 1 = kSt K by omega]
      refine r_aload_n (pc := 7) dX9_seenByOrder_7 rfl ?_
      refine r_getf (pc := 8) (k := 1) dX9_seenByOrder_8 hX9 eX9 (by decide) fX9_10 (fun _ q => q.1.1.o) rfl ?_
      refine r_Vi (pc := 11) (μ' := mX0_strips) dX9_seenByOrder_11 nX9_55 iX0_strips vX0_strips kX0_strips rfl rfl (rr (by decide) rfl) rfl ⟨Nat.zero_le _, Nat.zero_le _⟩ (fun g' q => ct_Ceil_strips (q.1.1.2.1 : CeilI _ _ _ _ _ _ _ _ _ _ _ _) q) ?_
      refine r_icmp_ge (pc := 14) 57 dX9_seenByOrder_14 (by decide) (fun c14 => ?_) (fun c14 => ?_)
      · skip
        refine r_iload_n (pc := 57) dX9_seenByOrder_57 rfl ?_
        refine r_ireturn (pc := 58) (ty := .int) dX9_seenByOrder_58 rfl rfl ⟨Nat.zero_le _, Nat.zero_le _⟩ (fun gE hg => ?_)
        exact ⟨rfl, hP _ hg.1 hg.2⟩
      · skip
        exact absurd (fa_le.mpr (Int.le_refl _)) c14
    · intro k hk ih
      have hTk := nI_T (n := k + 1) (by omega)
      obtain ⟨ha, ha2⟩ := hp k (by omega)
      obtain ⟨hb, hb2⟩ := hp (k + 1) (by omega)
      refine r_iload_n (pc := 4) dX9_seenByOrder_4 rfl ?_
      refine r_iconst (pc := 5) (v := 1) dX9_seenByOrder_5 (by decide) ?_
      refine r_iadd (pc := 6) dX9_seenByOrder_6 ?_
      rw [nI_s]
      refine r_aload_n (pc := 7) dX9_seenByOrder_7 rfl ?_
      refine r_getf (pc := 8) (k := 1) dX9_seenByOrder_8 hX9 eX9 (by decide) fX9_10 (fun _ q => q.1.1.o) rfl ?_
      refine r_Vi (pc := 11) (μ' := mX0_strips) dX9_seenByOrder_11 nX9_55 iX0_strips vX0_strips kX0_strips rfl rfl (rr (by decide) rfl) rfl ⟨Nat.zero_le _, Nat.zero_le _⟩ (fun g' q => ct_Ceil_strips (q.1.1.2.1 : CeilI _ _ _ _ _ _ _ _ _ _ _ _) q) ?_
      refine r_icmp_ge (pc := 14) 57 dX9_seenByOrder_14 (by decide) (fun c14 => ?_) (fun c14 => ?_)
      · skip
        exact absurd c14 (fun q => by have := fa_le.mp q; rw [hTk] at this; have : (nI (kSt K)).toInt ≤ ((k + 1 : Nat) : Int) := this; omega)
      · skip
        refine r_iload_n (pc := 17) dX9_seenByOrder_17 rfl ?_
        refine r_aload_n (pc := 18) dX9_seenByOrder_18 rfl ?_
        refine r_getf (pc := 19) (k := 0) dX9_seenByOrder_19 hX9 eX9 (by decide) fX9_44 (fun _ q => q.1.1.o) rfl ?_
        refine r_aload_n (pc := 22) dX9_seenByOrder_22 rfl ?_
        refine r_getf (pc := 23) (k := 1) dX9_seenByOrder_23 hX9 eX9 (by decide) fX9_10 (fun _ q => q.1.1.o) rfl ?_
        refine r_iload_n (pc := 26) dX9_seenByOrder_26 rfl ?_
        refine r_aload_n (pc := 27) dX9_seenByOrder_27 rfl ?_
        refine r_getf (pc := 28) (k := 3) dX9_seenByOrder_28 hX9 eX9 (by decide) fX9_25 (fun _ q => q.1.1.o) rfl ?_
        refine r_iload_n (pc := 31) dX9_seenByOrder_31 rfl ?_
        refine r_Vi (pc := 32) (μ' := mX5_at) dX9_seenByOrder_32 nX9_96 iX5_at vX5_at kX5_at rfl rfl (rr (by decide) rfl) rfl ⟨Nat.zero_le _, Nat.zero_le _⟩ (fun g' q => ct_Row_at q.1.1.2.2.2.1 q) ?_
        rw [atL_nI (show k ≤ 4000 by omega), ha]
        refine r_aload_n (pc := 35) dX9_seenByOrder_35 rfl ?_
        refine r_getf (pc := 36) (k := 3) dX9_seenByOrder_36 hX9 eX9 (by decide) fX9_25 (fun _ q => q.1.1.o) rfl ?_
        refine r_iload_n (pc := 39) dX9_seenByOrder_39 rfl ?_
        refine r_iconst (pc := 40) (v := 1) dX9_seenByOrder_40 (by decide) ?_
        refine r_iadd (pc := 41) dX9_seenByOrder_41 ?_
        rw [nI_s]
        refine r_Vi (pc := 42) (μ' := mX5_at) dX9_seenByOrder_42 nX9_96 iX5_at vX5_at kX5_at rfl rfl (rr (by decide) rfl) rfl ⟨Nat.zero_le _, Nat.zero_le _⟩ (fun g' q => ct_Row_at q.1.1.2.2.2.1 q) ?_
        rw [atL_nI (show k + 1 ≤ 4000 by omega), hb]
        refine r_iconst (pc := 45) (v := 0) dX9_seenByOrder_45 (by decide) ?_
        rw [← nI_0]
        refine r_Vi (pc := 46) (μ' := mX2_seenBetween) dX9_seenByOrder_46 nX9_106 iX2_seenBetween vX2_seenBetween kX2_seenBetween rfl rfl (rr (by decide) rfl) rfl ⟨Nat.zero_le _, Nat.zero_le _⟩ (fun g' q => ct_Eye_seenBetween (P' := fun g2 => TE θ ε td lD lL be K sp pl bs sb sw sx g2 ∧ OffS (eyS ε td) g g2) q.1.ec ok wb (by omega) ha2 hb2 (by omega) (fun g2 a b => ⟨q.1.on a b, q.2.tr b⟩)) ?_
        refine r_iadd (pc := 49) dX9_seenByOrder_49 ?_
        rw [nI_add]
        refine r_istore_n (pc := 50) dX9_seenByOrder_50 rfl (Nat.le_of_ble_eq_true rfl) rfl ?_
        dsimp only [lset]
        refine r_iinc1 (pc := 51) dX9_seenByOrder_51 rfl (Nat.le_of_ble_eq_true rfl) rfl ?_
        dsimp only [lset]
        refine r_goto (pc := 54) 4 dX9_seenByOrder_54 (by decide) ?_
        rw [nI_s]
        exact ih
  refine aw_P (P' := fun g' => TE θ ε td lD lL be K sp pl bs sb sw sx g' ∧ OffS (eyS ε td) g g') (fun g' e => by subst e; exact ⟨hT, OffS.rf _ _⟩) ?_
  refine r_iconst (pc := 0) (v := 0) dX9_seenByOrder_0 (by decide) ?_
  refine r_istore_n (pc := 1) dX9_seenByOrder_1 rfl (Nat.le_of_ble_eq_true rfl) rfl ?_
  dsimp only [lset]
  refine r_iconst (pc := 2) (v := 0) dX9_seenByOrder_2 (by decide) ?_
  refine r_istore_n (pc := 3) dX9_seenByOrder_3 rfl (Nat.le_of_ble_eq_true rfl) rfl ?_
  dsimp only [lset]
  exact L 0 (Nat.zero_le _)
/-- what is seen ahead of STRIPS 1, 2, ..: a list from its numbers -/
def wpL (f : Nat → Nat) (st : Nat) : Nat → List Int32
  | 0 => List.replicate st 0
  | k + 1 => (wpL f st k).set (k + 1) (nI (f (k + 1)))
theorem wpL_len {f : Nat → Nat} {st : Nat} : ∀ k, (wpL f st k).length = st
  | 0 => List.length_replicate
  | k + 1 => by rw [wpL, List.length_set, wpL_len k]
theorem wpL_at {f : Nat → Nat} {st s : Nat} (hs : s < st) (h1 : 1 ≤ s) : ∀ k, s ≤ k → (wpL f st k).getD s 0 = nI (f s)
  | 0 => fun h => by omega
  | k + 1 => fun h => by
    by_cases e : s = k + 1
    · subst e; rw [wpL, getD_set (by rw [wpL_len]; omega), if_pos rfl]
    · by_cases e2 : k + 1 < st
      · rw [wpL, getD_set (by rw [wpL_len]; omega), if_neg e]; exact wpL_at hs h1 k (by omega)
      · rw [wpL, List.set_eq_of_length_le (by rw [wpL_len]; omega)]; exact wpL_at hs h1 k (by omega)
def swL (K : CK) (lD lL : List Int32) (n : Nat) : Nat → List Int32 := wpL (fun s => SB K lD lL (s - 1) (s - 1) s n) (kSt K)
set_option maxHeartbeats 8000000 in
theorem ct_Th_weighPauses {n : Nat} (hT : TE θ ε td lD lL be K sp pl bs sb sw sx g) (ok : KOk K) (wb : WB K) (hn : n ≤ 4000) (hP : ∀ g', TE θ ε td lD lL be K sp pl bs sb (swL K lD lL 0 (kSt K - 1)) (swL K lD lL n (kSt K - 1)) g' → OffS (thS ε td θ) g g' → P' g') : CV 8 0 0 mX9_weighPauses θ [.int (nI n)] g (fun v g' => v = none ∧ P' g') := by
  refine ⟨hT.1.V, ?_⟩
  refine ct_of (by decide) (fun _ _ => Nat.le_of_ble_eq_true rfl) ?_
  dsimp only [pad, ent]
  have hst : 1 ≤ kSt K ∧ kSt K ≤ 6 := ok.2.1
  have hTst := nI_T (n := kSt K) (by omega)
  have hcl : clampI (nI (kSt K)) 6 = kSt K := by unfold clampI; rw [hTst]; omega
  have L : ∀ k, k ≤ kSt K - 1 → AW (fun _ => True) (rmd 8 0 0) mX9_weighPauses 0 0 32 [some (.ref θ), some (.int (nI n)), some (.int (nI (k + 1)))] [] (fun g' => TE θ ε td lD lL be K sp pl bs sb (swL K lD lL 0 k) (swL K lD lL n k) g' ∧ OffS (thS ε td θ) g g') (fun v g' => v = none ∧ P' g') := by
    refine up_loop ?_ ?_
    · rw [show kSt K - 1 + 1 = kSt K by omega]
      refine r_iload_n (pc := 32) dX9_weighPauses_32 rfl ?_
      refine r_aload_n (pc := 33) dX9_weighPauses_33 rfl ?_
      refine r_getf (pc := 34) (k := 1) dX9_weighPauses_34 hX9 eX9 (by decide) fX9_10 (fun _ q => q.1.1.o) rfl ?_
      refine r_Vi (pc := 37) (μ' := mX0_strips) dX9_weighPauses_37 nX9_55 iX0_strips vX0_strips kX0_strips rfl rfl (rr (by decide) rfl) rfl ⟨Nat.zero_le _, Nat.zero_le _⟩ (fun g' q => ct_Ceil_strips (q.1.1.2.1 : CeilI _ _ _ _ _ _ _ _ _ _ _ _) q) ?_
      refine r_icmp_ge (pc := 40) 103 dX9_weighPauses_40 (by decide) (fun c40 => ?_) (fun c40 => ?_)
      · skip
        refine r_return (pc := 103) dX9_weighPauses_103 rfl ⟨Nat.zero_le _, Nat.zero_le _⟩ (fun gE hg => ?_)
        exact ⟨rfl, hP _ hg.1 hg.2⟩
      · skip
        exact absurd (fa_le.mpr (Int.le_refl _)) c40
    · intro k hk ih
      have hTk := nI_T (n := k + 1) (by omega)
      have hpr : nI (k + 1) - 1 = nI k := nI_pred k
      refine r_iload_n (pc := 32) dX9_weighPauses_32 rfl ?_
      refine r_aload_n (pc := 33) dX9_weighPauses_33 rfl ?_
      refine r_getf (pc := 34) (k := 1) dX9_weighPauses_34 hX9 eX9 (by decide) fX9_10 (fun _ q => q.1.1.o) rfl ?_
      refine r_Vi (pc := 37) (μ' := mX0_strips) dX9_weighPauses_37 nX9_55 iX0_strips vX0_strips kX0_strips rfl rfl (rr (by decide) rfl) rfl ⟨Nat.zero_le _, Nat.zero_le _⟩ (fun g' q => ct_Ceil_strips (q.1.1.2.1 : CeilI _ _ _ _ _ _ _ _ _ _ _ _) q) ?_
      refine r_icmp_ge (pc := 40) 103 dX9_weighPauses_40 (by decide) (fun c40 => ?_) (fun c40 => ?_)
      · skip
        exact absurd c40 (fun q => by have := fa_le.mp q; rw [hTk] at this; have : (nI (kSt K)).toInt ≤ ((k + 1 : Nat) : Int) := this; omega)
      · skip
        refine r_aload_n (pc := 43) dX9_weighPauses_43 rfl ?_
        refine r_getf (pc := 44) (k := 6) dX9_weighPauses_44 hX9 eX9 (by decide) fX9_34 (fun _ q => q.1.1.o) rfl ?_
        refine r_iload_n (pc := 47) dX9_weighPauses_47 rfl ?_
        refine r_aload_n (pc := 48) dX9_weighPauses_48 rfl ?_
        refine r_getf (pc := 49) (k := 0) dX9_weighPauses_49 hX9 eX9 (by decide) fX9_44 (fun _ q => q.1.1.o) rfl ?_
        refine r_aload_n (pc := 52) dX9_weighPauses_52 rfl ?_
        refine r_getf (pc := 53) (k := 1) dX9_weighPauses_53 hX9 eX9 (by decide) fX9_10 (fun _ q => q.1.1.o) rfl ?_
        refine r_iload_n (pc := 56) dX9_weighPauses_56 rfl ?_
        refine r_iconst (pc := 57) (v := 1) dX9_weighPauses_57 (by decide) ?_
        refine r_isub (pc := 58) dX9_weighPauses_58 ?_
        refine r_iload_n (pc := 59) dX9_weighPauses_59 rfl ?_
        refine r_iconst (pc := 60) (v := 1) dX9_weighPauses_60 (by decide) ?_
        refine r_isub (pc := 61) dX9_weighPauses_61 ?_
        refine r_iload_n (pc := 62) dX9_weighPauses_62 rfl ?_
        refine r_iconst (pc := 63) (v := 0) dX9_weighPauses_63 (by decide) ?_
        rw [hpr, ← nI_0]
        refine r_Vi (pc := 64) (μ' := mX2_seenBetween) dX9_weighPauses_64 nX9_106 iX2_seenBetween vX2_seenBetween kX2_seenBetween rfl rfl (rr (by decide) rfl) rfl ⟨Nat.zero_le _, Nat.zero_le _⟩ (fun g' q => ct_Eye_seenBetween (P' := fun g2 => TE θ ε td lD lL be K sp pl bs sb (swL K lD lL 0 k) (swL K lD lL n k) g2 ∧ OffS (thS ε td θ) g g2) q.1.ec ok wb (by omega) (by omega) (by omega) (by omega) (fun g2 a b => ⟨q.1.on a b, q.2.tr (eS b)⟩)) ?_
        refine r_Vv (pc := 67) (μ' := mX5_write) dX9_weighPauses_67 nX9_103 iX5_write vX5_write kX5_write rfl rfl (rr (by decide) rfl) rfl ⟨Nat.zero_le _, Nat.zero_le _⟩ (fun g' q => ct_Row_write (P' := fun g2 => TE θ ε td lD lL be K sp pl bs sb (swL K lD lL 0 (k + 1)) (swL K lD lL n k) g2 ∧ OffS (thS ε td θ) g g2) q.1.1.2.2.2.2.2.2.1 (fun g2 a b => ⟨q.1.in (q.1.1.set_sw (by rw [wrL_nI (by omega)] at a; exact a) b) (b.wide (by omega) (by omega)), q.2.tr (tS (b.wide (by omega) (by omega)))⟩)) ?_
        refine r_aload_n (pc := 70) dX9_weighPauses_70 rfl ?_
        refine r_getf (pc := 71) (k := 7) dX9_weighPauses_71 hX9 eX9 (by decide) fX9_37 (fun _ q => q.1.1.o) rfl ?_
        refine r_iload_n (pc := 74) dX9_weighPauses_74 rfl ?_
        refine r_aload_n (pc := 75) dX9_weighPauses_75 rfl ?_
        refine r_getf (pc := 76) (k := 0) dX9_weighPauses_76 hX9 eX9 (by decide) fX9_44 (fun _ q => q.1.1.o) rfl ?_
        refine r_aload_n (pc := 79) dX9_weighPauses_79 rfl ?_
        refine r_getf (pc := 80) (k := 1) dX9_weighPauses_80 hX9 eX9 (by decide) fX9_10 (fun _ q => q.1.1.o) rfl ?_
        refine r_iload_n (pc := 83) dX9_weighPauses_83 rfl ?_
        refine r_iconst (pc := 84) (v := 1) dX9_weighPauses_84 (by decide) ?_
        refine r_isub (pc := 85) dX9_weighPauses_85 ?_
        refine r_iload_n (pc := 86) dX9_weighPauses_86 rfl ?_
        refine r_iconst (pc := 87) (v := 1) dX9_weighPauses_87 (by decide) ?_
        refine r_isub (pc := 88) dX9_weighPauses_88 ?_
        refine r_iload_n (pc := 89) dX9_weighPauses_89 rfl ?_
        refine r_iload_n (pc := 90) dX9_weighPauses_90 rfl ?_
        rw [hpr]
        refine r_Vi (pc := 91) (μ' := mX2_seenBetween) dX9_weighPauses_91 nX9_106 iX2_seenBetween vX2_seenBetween kX2_seenBetween rfl rfl (rr (by decide) rfl) rfl ⟨Nat.zero_le _, Nat.zero_le _⟩ (fun g' q => ct_Eye_seenBetween (P' := fun g2 => TE θ ε td lD lL be K sp pl bs sb (swL K lD lL 0 (k + 1)) (swL K lD lL n k) g2 ∧ OffS (thS ε td θ) g g2) q.1.ec ok wb (by omega) (by omega) (by omega) hn (fun g2 a b => ⟨q.1.on a b, q.2.tr (eS b)⟩)) ?_
        refine r_Vv (pc := 94) (μ' := mX5_write) dX9_weighPauses_94 nX9_103 iX5_write vX5_write kX5_write rfl rfl (rr (by decide) rfl) rfl ⟨Nat.zero_le _, Nat.zero_le _⟩ (fun g' q => ct_Row_write (P' := fun g2 => TE θ ε td lD lL be K sp pl bs sb (swL K lD lL 0 (k + 1)) (swL K lD lL n (k + 1)) g2 ∧ OffS (thS ε td θ) g g2) q.1.1.2.2.2.2.2.2.2 (fun g2 a b => ⟨q.1.in (q.1.1.set_sx (by rw [wrL_nI (by omega)] at a; exact a) b) (b.wide (by omega) (by omega)), q.2.tr (tS (b.wide (by omega) (by omega)))⟩)) ?_
        refine r_iinc1 (pc := 97) dX9_weighPauses_97 rfl (Nat.le_of_ble_eq_true rfl) rfl ?_
        dsimp only [lset]
        refine r_goto (pc := 100) 32 dX9_weighPauses_100 (by decide) ?_
        rw [nI_s]
        exact ih
  refine aw_P (P' := fun g' => TE θ ε td lD lL be K sp pl bs sb sw sx g' ∧ OffS (thS ε td θ) g g') (fun g' e => by subst e; exact ⟨hT, OffS.rf _ _⟩) ?_
  refine r_aload_n (pc := 0) dX9_weighPauses_0 rfl ?_
  refine r_getf (pc := 1) (k := 6) dX9_weighPauses_1 hX9 eX9 (by decide) fX9_34 (fun _ q => q.1.1.o) rfl ?_
  refine r_aload_n (pc := 4) dX9_weighPauses_4 rfl ?_
  refine r_getf (pc := 5) (k := 1) dX9_weighPauses_5 hX9 eX9 (by decide) fX9_10 (fun _ q => q.1.1.o) rfl ?_
  refine r_Vi (pc := 8) (μ' := mX0_strips) dX9_weighPauses_8 nX9_55 iX0_strips vX0_strips kX0_strips rfl rfl (rr (by decide) rfl) rfl ⟨Nat.zero_le _, Nat.zero_le _⟩ (fun g' q => ct_Ceil_strips (q.1.1.2.1 : CeilI _ _ _ _ _ _ _ _ _ _ _ _) q) ?_
  refine r_iconst (pc := 11) (v := 0) dX9_weighPauses_11 (by decide) ?_
  refine r_Vv (pc := 12) (μ' := mX5_fill) dX9_weighPauses_12 nX9_92 iX5_fill vX5_fill kX5_fill rfl rfl (rr (by decide) rfl) rfl ⟨Nat.zero_le _, Nat.zero_le _⟩ (fun g' q => ct_Row_fill (P' := fun g2 => TE θ ε td lD lL be K sp pl bs sb (swL K lD lL 0 0) sx g2 ∧ OffS (thS ε td θ) g g2) q.1.1.2.2.2.2.2.2.1 (fun g2 a b => ⟨q.1.in (q.1.1.set_sw (by rw [show clampI (nI K.2.1) 6 = kSt K from hcl] at a; exact a) b) (b.wide (by omega) (by omega)), q.2.tr (tS (b.wide (by omega) (by omega)))⟩)) ?_
  refine r_aload_n (pc := 15) dX9_weighPauses_15 rfl ?_
  refine r_getf (pc := 16) (k := 7) dX9_weighPauses_16 hX9 eX9 (by decide) fX9_37 (fun _ q => q.1.1.o) rfl ?_
  refine r_aload_n (pc := 19) dX9_weighPauses_19 rfl ?_
  refine r_getf (pc := 20) (k := 1) dX9_weighPauses_20 hX9 eX9 (by decide) fX9_10 (fun _ q => q.1.1.o) rfl ?_
  refine r_Vi (pc := 23) (μ' := mX0_strips) dX9_weighPauses_23 nX9_55 iX0_strips vX0_strips kX0_strips rfl rfl (rr (by decide) rfl) rfl ⟨Nat.zero_le _, Nat.zero_le _⟩ (fun g' q => ct_Ceil_strips (q.1.1.2.1 : CeilI _ _ _ _ _ _ _ _ _ _ _ _) q) ?_
  refine r_iconst (pc := 26) (v := 0) dX9_weighPauses_26 (by decide) ?_
  refine r_Vv (pc := 27) (μ' := mX5_fill) dX9_weighPauses_27 nX9_92 iX5_fill vX5_fill kX5_fill rfl rfl (rr (by decide) rfl) rfl ⟨Nat.zero_le _, Nat.zero_le _⟩ (fun g' q => ct_Row_fill (P' := fun g2 => TE θ ε td lD lL be K sp pl bs sb (swL K lD lL 0 0) (swL K lD lL n 0) g2 ∧ OffS (thS ε td θ) g g2) q.1.1.2.2.2.2.2.2.2 (fun g2 a b => ⟨q.1.in (q.1.1.set_sx (by rw [show clampI (nI K.2.1) 6 = kSt K from hcl] at a; exact a) b) (b.wide (by omega) (by omega)), q.2.tr (tS (b.wide (by omega) (by omega)))⟩)) ?_
  refine r_iconst (pc := 30) (v := 1) dX9_weighPauses_30 (by decide) ?_
  refine r_istore_n (pc := 31) dX9_weighPauses_31 rfl (Nat.le_of_ble_eq_true rfl) rfl ?_
  dsimp only [lset]
  exact L 0 (Nat.zero_le _)
end Tho2
