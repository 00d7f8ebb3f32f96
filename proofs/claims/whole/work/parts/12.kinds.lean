/-! KINDS (OneGoCeiling$Kinds): tables of the kinds -/
section RowsE
variable {XS : XT → Prop} {R : Room} {μ : MI} {kc ks pc : Nat} {ls : List (Option Value)} {st : List Value} {P P' : AH → Prop} {Q : Option Value → AH → Prop}
theorem r_stA_len {idx : Nat} (hf : decode μ.2.1 pc = .ok (.getstatic idx, 3)) (hf2 : decode μ.2.1 (pc + 3) = .ok (.arraylength, 1)) (hlink : Cond.fieldLink μ.1.cls idx "OneGoCeiling$Kinds" "ABOVE" "[I" ∈ lw_g) (kk : AW XS R μ kc ks (pc + 4) ls (.int 7 :: st) P Q) : AW XS R μ kc ks pc ls st P Q := by
  intro p l e s m args below meth c D b base X Z hX hc hz h H locs lsA hP hH hS hL
  obtain ⟨t, h1, h2⟩ := hc.2.2.2.2.2.2.2.2.2.2.1
  refine va_gets hc.1 hc.2.1 h1 hS hc.2.2.2.2.1 (hc.2.2.2.2.2.2.2.1 _ hlink) (fun _ q => q) hf ?_
  exact va_tlen hc.1 hc.2.1 h2 hS rfl hf2 (kk p l e s m args below meth c D b base X Z hX hc hz h H locs lsA hP hH hS hL)
theorem r_stA_ld {idx j : Nat} {k : Fin 4} {x : Int32} (hf : decode μ.2.1 pc = .ok (.getstatic idx, 3)) (hf2 : decode μ.2.1 (pc + 3) = .ok (.iload_n k, 1)) (hf3 : decode μ.2.1 (pc + 3 + 1) = .ok (.iaload, 1)) (hlink : Cond.fieldLink μ.1.cls idx "OneGoCeiling$Kinds" "ABOVE" "[I" ∈ lw_g) (hl : lget ls k = some (.int x)) (hx : x.toInt = (j : Int)) (hj : j < 7) (kk : AW XS R μ kc ks (pc + 5) ls (.int (lAB.getD j 0) :: st) P Q) : AW XS R μ kc ks pc ls st P Q := by
  intro p l e s m args below meth c D b base X Z hX hc hz h H locs lsA hP hH hS hL
  obtain ⟨t, h1, h2⟩ := hc.2.2.2.2.2.2.2.2.2.2.1
  refine va_gets hc.1 hc.2.1 h1 hS hc.2.2.2.2.1 (hc.2.2.2.2.2.2.2.1 _ hlink) (fun _ q => q) hf ?_
  refine lv_iload_n hc.1 hc.2.1 hf2 rfl (lget_ok hL hl) ?_
  exact va_ti hc.1 hc.2.1 h2 hS (ix_in hx hj) (by rw [ix_cl hx]; rfl) hf3 (kk p l e s m args below meth c D b base X Z hX hc hz h H locs lsA hP hH hS hL)
theorem r_stB_len {idx : Nat} (hf : decode μ.2.1 pc = .ok (.getstatic idx, 3)) (hf2 : decode μ.2.1 (pc + 3) = .ok (.arraylength, 1)) (hlink : Cond.fieldLink μ.1.cls idx "OneGoCeiling$Voices" "BODIES" "[I" ∈ lw_g) (kk : AW XS R μ kc ks (pc + 4) ls (.int 28 :: st) P Q) : AW XS R μ kc ks pc ls st P Q := by
  intro p l e s m args below meth c D b base X Z hX hc hz h H locs lsA hP hH hS hL
  obtain ⟨t, h1, h2⟩ := hc.2.2.2.2.2.2.2.2.2.2.2.1
  refine va_gets hc.1 hc.2.1 h1 hS hc.2.2.2.2.1 (hc.2.2.2.2.2.2.2.1 _ hlink) (fun _ q => q) hf ?_
  exact va_tlen hc.1 hc.2.1 h2 hS rfl hf2 (kk p l e s m args below meth c D b base X Z hX hc hz h H locs lsA hP hH hS hL)
theorem r_stB_ld {idx j : Nat} {k : Fin 4} {x : Int32} (hf : decode μ.2.1 pc = .ok (.getstatic idx, 3)) (hf2 : decode μ.2.1 (pc + 3) = .ok (.iload_n k, 1)) (hf3 : decode μ.2.1 (pc + 3 + 1) = .ok (.iaload, 1)) (hlink : Cond.fieldLink μ.1.cls idx "OneGoCeiling$Voices" "BODIES" "[I" ∈ lw_g) (hl : lget ls k = some (.int x)) (hx : x.toInt = (j : Int)) (hj : j < 28) (kk : AW XS R μ kc ks (pc + 5) ls (.int (lBO.getD j 0) :: st) P Q) : AW XS R μ kc ks pc ls st P Q := by
  intro p l e s m args below meth c D b base X Z hX hc hz h H locs lsA hP hH hS hL
  obtain ⟨t, h1, h2⟩ := hc.2.2.2.2.2.2.2.2.2.2.2.1
  refine va_gets hc.1 hc.2.1 h1 hS hc.2.2.2.2.1 (hc.2.2.2.2.2.2.2.1 _ hlink) (fun _ q => q) hf ?_
  refine lv_iload_n hc.1 hc.2.1 hf2 rfl (lget_ok hL hl) ?_
  exact va_ti hc.1 hc.2.1 h2 hS (ix_in hx hj) (by rw [ix_cl hx]; rfl) hf3 (kk p l e s m args below meth c D b base X Z hX hc hz h H locs lsA hP hH hS hL)
end RowsE
def aboveI (k : Int32) : Int32 := if 0 ≤ k.toInt ∧ k.toInt < 7 then lAB.getD k.toInt.toNat 0 else -1
def paceI (kd m k : Int32) : Int32 := if kd = 1 then 3 else if kd = 2 then 1 else if kd = 3 then (if k % 2 = 0 then 1 else 0) else if kd = 4 then 3 + m / 4 else if kd = 5 then 1 + k / 3 else if kd = 6 then (if k % 2 = 0 then 1 else 0) else 2
def loadI (kd m : Int32) : Int32 := if kd = 2 then 3 + m % 3 else if kd = 3 then 9 else if kd = 4 then 2 else if kd = 5 then 3 + m % 3 - 1 else if kd = 6 then 4 else 2
def usesI (kd m : Int32) : Int32 := if kd = 3 then 2 else if kd = 6 then 2 + m % 2 else 1
def newI (kd m k : Int32) : Int32 := if ¬ k = 0 ∧ ¬ loadI kd m ≤ 0 ∧ k % loadI kd m = 0 then 1 else 0
def mfI (kd m k : Int32) : Int32 := paceI kd m k + newI kd m k
def undI : Nat → Int32 → Int32 → Bool
  | 0, _, _ => false
  | n + 1, k, o => if k < 0 then false else if k = o then true else undI n (aboveI k) o
def dseq (kd m mi : Int32) : Nat → Int32
  | 0 => mi
  | k + 1 => dseq kd m mi k + mfI kd m (nI k)
def doesB (l : List Int32) (mi kd m : Int32) : Bool := (List.range l.length).all fun k => decide (l.getD k 0 = dseq kd m mi (k + 1))
def lbI (l : List Int32) (mi m : Int32) : Int32 := match (List.range 7).find? (fun kd => doesB l mi (nI kd) m) with
  | some kd => nI kd
  | none => -1
set_option maxHeartbeats 4000000 in
theorem ct_Kinds_above {k : Int32} (g : AH) : CT 1 0 0 mX3_above [.int k] g (fun v g' => v = some (.int (aboveI k)) ∧ g' = g) := by
  refine ct_of (by decide) (fun _ _ => Nat.le_of_ble_eq_true rfl) ?_
  dsimp only [pad, ent]
  refine r_iload_n (pc := 0) dX3_above_0 rfl ?_
  refine r_if_lt (pc := 1) 20 dX3_above_1 (by decide) (fun c1 => ?_) (fun c1 => ?_)
  · skip
    have k1 := i32_lt0.mp c1
    refine r_iconst (pc := 20) (v := (-1)) dX3_above_20 (by decide) ?_
    refine r_ireturn (pc := 21) (ty := .int) dX3_above_21 rfl rfl ⟨Nat.zero_le _, Nat.zero_le _⟩ (fun gE hg => ?_)
    refine ⟨?_, hg⟩
    unfold aboveI
    first
    | (rw [if_pos (by omega)]; done)
    | (rw [if_neg (by omega)]; done)
  · skip
    have k1 := ge0 c1
    refine r_iload_n (pc := 4) dX3_above_4 rfl ?_
    refine r_stA_len (pc := 5) dX3_above_5 dX3_above_8 fX3_9 ?_
    refine r_icmp_ge (pc := 9) 20 dX3_above_9 (by decide) (fun c9 => ?_) (fun c9 => ?_)
    · skip
      have k9 : (7 : Int) ≤ k.toInt := fa_le.mp c9
      refine r_iconst (pc := 20) (v := (-1)) dX3_above_20 (by decide) ?_
      refine r_ireturn (pc := 21) (ty := .int) dX3_above_21 rfl rfl ⟨Nat.zero_le _, Nat.zero_le _⟩ (fun gE hg => ?_)
      refine ⟨?_, hg⟩
      unfold aboveI
      first
      | (rw [if_pos (by omega)]; done)
      | (rw [if_neg (by omega)]; done)
    · skip
      have k9 : ¬ (7 : Int) ≤ k.toInt := fun q => c9 (fa_le.mpr q)
      refine r_stA_ld (pc := 12) (j := k.toInt.toNat) dX3_above_12 dX3_above_15 dX3_above_16 fX3_9 rfl (ix_hi c1) (by omega) ?_
      refine r_goto (pc := 17) 21 dX3_above_17 (by decide) ?_
      refine r_ireturn (pc := 21) (ty := .int) dX3_above_21 rfl rfl ⟨Nat.zero_le _, Nat.zero_le _⟩ (fun gE hg => ?_)
      refine ⟨?_, hg⟩
      unfold aboveI
      first
      | (rw [if_pos (by omega)]; done)
      | (rw [if_neg (by omega)]; done)
set_option maxHeartbeats 4000000 in
theorem ct_Kinds_isKind {k : Int32} (g : AH) : CT 1 0 0 mX3_isKind [.int k] g (fun v g' => v = some (.int (b2i (decide (0 ≤ k.toInt ∧ k.toInt < 7)))) ∧ g' = g) := by
  refine ct_of (by decide) (fun _ _ => Nat.le_of_ble_eq_true rfl) ?_
  dsimp only [pad, ent]
  refine r_iload_n (pc := 0) dX3_isKind_0 rfl ?_
  refine r_if_lt (pc := 1) 14 dX3_isKind_1 (by decide) (fun c1 => ?_) (fun c1 => ?_)
  · skip
    have k1 := i32_lt0.mp c1
    refine r_iconst (pc := 14) (v := 0) dX3_isKind_14 (by decide) ?_
    refine r_ireturn (pc := 15) (ty := .boolean) dX3_isKind_15 rfl rfl ⟨Nat.zero_le _, Nat.zero_le _⟩ (fun gE hg => ?_)
    refine ⟨?_, hg⟩
    first
    | (rw [decide_eq_true (by omega)]; rfl)
    | (rw [decide_eq_false (by omega)]; rfl)
  · skip
    have k1 := ge0 c1
    refine r_iload_n (pc := 4) dX3_isKind_4 rfl ?_
    refine r_bipush (pc := 5) (v := 7) dX3_isKind_5 (by decide) ?_
    refine r_icmp_ge (pc := 7) 14 dX3_isKind_7 (by decide) (fun c7 => ?_) (fun c7 => ?_)
    · skip
      have k9 : (7 : Int) ≤ k.toInt := fa_le.mp c7
      refine r_iconst (pc := 14) (v := 0) dX3_isKind_14 (by decide) ?_
      refine r_ireturn (pc := 15) (ty := .boolean) dX3_isKind_15 rfl rfl ⟨Nat.zero_le _, Nat.zero_le _⟩ (fun gE hg => ?_)
      refine ⟨?_, hg⟩
      first
      | (rw [decide_eq_true (by omega)]; rfl)
      | (rw [decide_eq_false (by omega)]; rfl)
    · skip
      have k9 : ¬ (7 : Int) ≤ k.toInt := fun q => c7 (fa_le.mpr q)
      refine r_iconst (pc := 10) (v := 1) dX3_isKind_10 (by decide) ?_
      refine r_goto (pc := 11) 15 dX3_isKind_11 (by decide) ?_
      refine r_ireturn (pc := 15) (ty := .boolean) dX3_isKind_15 rfl rfl ⟨Nat.zero_le _, Nat.zero_le _⟩ (fun gE hg => ?_)
      refine ⟨?_, hg⟩
      first
      | (rw [decide_eq_true (by omega)]; rfl)
      | (rw [decide_eq_false (by omega)]; rfl)
set_option maxHeartbeats 4000000 in
theorem ct_Kinds_isKM {k : Int32} (g : AH) : CT 1 0 0 mX3_isKindAndNumber [.int k] g (fun v g' => v = some (.int (b2i (decide (0 ≤ k.toInt ∧ k.toInt < 70)))) ∧ g' = g) := by
  refine ct_of (by decide) (fun _ _ => Nat.le_of_ble_eq_true rfl) ?_
  dsimp only [pad, ent]
  refine r_iload_n (pc := 0) dX3_isKindAndNumber_0 rfl ?_
  refine r_if_lt (pc := 1) 14 dX3_isKindAndNumber_1 (by decide) (fun c1 => ?_) (fun c1 => ?_)
  · skip
    have k1 := i32_lt0.mp c1
    refine r_iconst (pc := 14) (v := 0) dX3_isKindAndNumber_14 (by decide) ?_
    refine r_ireturn (pc := 15) (ty := .boolean) dX3_isKindAndNumber_15 rfl rfl ⟨Nat.zero_le _, Nat.zero_le _⟩ (fun gE hg => ?_)
    refine ⟨?_, hg⟩
    first
    | (rw [decide_eq_true (by omega)]; rfl)
    | (rw [decide_eq_false (by omega)]; rfl)
  · skip
    have k1 := ge0 c1
    refine r_iload_n (pc := 4) dX3_isKindAndNumber_4 rfl ?_
    refine r_bipush (pc := 5) (v := 70) dX3_isKindAndNumber_5 (by decide) ?_
    refine r_icmp_ge (pc := 7) 14 dX3_isKindAndNumber_7 (by decide) (fun c7 => ?_) (fun c7 => ?_)
    · skip
      have k9 : (70 : Int) ≤ k.toInt := fa_le.mp c7
      refine r_iconst (pc := 14) (v := 0) dX3_isKindAndNumber_14 (by decide) ?_
      refine r_ireturn (pc := 15) (ty := .boolean) dX3_isKindAndNumber_15 rfl rfl ⟨Nat.zero_le _, Nat.zero_le _⟩ (fun gE hg => ?_)
      refine ⟨?_, hg⟩
      first
      | (rw [decide_eq_true (by omega)]; rfl)
      | (rw [decide_eq_false (by omega)]; rfl)
    · skip
      have k9 : ¬ (70 : Int) ≤ k.toInt := fun q => c7 (fa_le.mpr q)
      refine r_iconst (pc := 10) (v := 1) dX3_isKindAndNumber_10 (by decide) ?_
      refine r_goto (pc := 11) 15 dX3_isKindAndNumber_11 (by decide) ?_
      refine r_ireturn (pc := 15) (ty := .boolean) dX3_isKindAndNumber_15 rfl rfl ⟨Nat.zero_le _, Nat.zero_le _⟩ (fun gE hg => ?_)
      refine ⟨?_, hg⟩
      first
      | (rw [decide_eq_true (by omega)]; rfl)
      | (rw [decide_eq_false (by omega)]; rfl)
set_option maxHeartbeats 4000000 in
theorem ct_Kinds_isUnder {k o : Int32} (g : AH) : CT 2 0 0 mX3_isUnder [.int k, .int o] g (fun v g' => v = some (.int (b2i (undI 7 k o))) ∧ g' = g) := by
  refine ct_of (by decide) (fun _ _ => Nat.le_of_ble_eq_true rfl) ?_
  dsimp only [pad, ent]
  have L : ∀ (n : Nat) (x : Int32), n ≤ 7 → AW (fun _ => True) (rmd 2 0 0) mX3_isUnder 0 0 4 [some (.int k), some (.int o), some (.int x), some (.int (nI (7 - n)))] [] (fun g' => g' = g) (fun v g' => v = some (.int (b2i (undI n x o))) ∧ g' = g) := by
    intro n
    induction n with
    | zero =>
      intro x hn
      refine r_iload_n (pc := 4) dX3_isUnder_4 rfl ?_
      refine r_bipush (pc := 5) (v := 7) dX3_isUnder_5 (by decide) ?_
      refine r_icmp_ge (pc := 7) 32 dX3_isUnder_7 (by decide) (fun c7 => ?_) (fun c7 => ?_)
      · skip
        refine r_iconst (pc := 32) (v := 0) dX3_isUnder_32 (by decide) ?_
        refine r_ireturn (pc := 33) (ty := .boolean) dX3_isUnder_33 rfl rfl ⟨Nat.zero_le _, Nat.zero_le _⟩ (fun gE hg => ?_)
        exact ⟨rfl, hg⟩
      · skip
        exact absurd (show (7 : Int32) ≤ nI (7 - 0) by decide) c7
    | succ n ih =>
      intro x hn
      have hT : (nI (7 - (n + 1))).toInt = ((7 - (n + 1) : Nat) : Int) := nI_T (by omega)
      refine r_iload_n (pc := 4) dX3_isUnder_4 rfl ?_
      refine r_bipush (pc := 5) (v := 7) dX3_isUnder_5 (by decide) ?_
      refine r_icmp_ge (pc := 7) 32 dX3_isUnder_7 (by decide) (fun c7 => ?_) (fun c7 => ?_)
      · skip
        exact absurd (fa_le.mp c7) (by rw [hT, show (7 : Int32).toInt = 7 from rfl]; omega)
      · skip
        refine r_iload_n (pc := 10) dX3_isUnder_10 rfl ?_
        refine r_if_lt (pc := 11) 32 dX3_isUnder_11 (by decide) (fun c11 => ?_) (fun c11 => ?_)
        · skip
          have k11 : undI (n + 1) x o = false := by unfold undI; rw [if_pos c11]
          refine r_iconst (pc := 32) (v := 0) dX3_isUnder_32 (by decide) ?_
          refine r_ireturn (pc := 33) (ty := .boolean) dX3_isUnder_33 rfl rfl ⟨Nat.zero_le _, Nat.zero_le _⟩ (fun gE hg => ?_)
          rw [k11]
          exact ⟨rfl, hg⟩
        · skip
          have k11 : undI (n + 1) x o = if x = o then true else undI n (aboveI x) o := by rw [undI, if_neg c11]
          refine r_iload_n (pc := 14) dX3_isUnder_14 rfl ?_
          refine r_iload_n (pc := 15) dX3_isUnder_15 rfl ?_
          refine r_icmp_ne (pc := 16) 21 dX3_isUnder_16 (by decide) (fun c16 => ?_) (fun c16 => ?_)
          · skip
            rw [if_neg c16] at k11
            refine r_iload_n (pc := 21) dX3_isUnder_21 rfl ?_
            refine r_Sp (pc := 22) (μ' := mX3_above) dX3_isUnder_22 nX3_13 sX3_above kX3_above rfl rfl (rr (by decide) rfl) rfl ⟨Nat.zero_le _, Nat.zero_le _⟩ (fun h => ct_Kinds_above h) ?_
            refine r_istore_n (pc := 25) dX3_isUnder_25 rfl (Nat.le_of_ble_eq_true rfl) rfl ?_
            dsimp only [lset]
            refine r_iinc1 (pc := 26) dX3_isUnder_26 rfl (Nat.le_of_ble_eq_true rfl) rfl ?_
            dsimp only [lset]
            refine r_goto (pc := 29) 4 dX3_isUnder_29 (by decide) ?_
            rw [nI_s, show 7 - (n + 1) + 1 = 7 - n by omega, k11]
            exact ih (aboveI x) (by omega)
          · skip
            rw [if_pos c16] at k11
            refine r_iconst (pc := 19) (v := 1) dX3_isUnder_19 (by decide) ?_
            refine r_ireturn (pc := 20) (ty := .boolean) dX3_isUnder_20 rfl rfl ⟨Nat.zero_le _, Nat.zero_le _⟩ (fun gE hg => ?_)
            rw [k11]
            exact ⟨rfl, hg⟩
  refine r_iload_n (pc := 0) dX3_isUnder_0 rfl ?_
  refine r_istore_n (pc := 1) dX3_isUnder_1 rfl (Nat.le_of_ble_eq_true rfl) rfl ?_
  dsimp only [lset]
  refine r_iconst (pc := 2) (v := 0) dX3_isUnder_2 (by decide) ?_
  refine r_istore_n (pc := 3) dX3_isUnder_3 rfl (Nat.le_of_ble_eq_true rfl) rfl ?_
  dsimp only [lset]
  exact L 7 k (Nat.le_refl _)
set_option maxHeartbeats 4000000 in
theorem ct_Kinds_pace {kd m k : Int32} (g : AH) : CT 1 0 0 mX3_pace [.int kd, .int m, .int k] g (fun v g' => v = some (.int (paceI kd m k)) ∧ g' = g) := by
  refine ct_of (by decide) (fun _ _ => Nat.le_of_ble_eq_true rfl) ?_
  dsimp only [pad, ent]
  unfold paceI
  refine r_iload_n (pc := 0) dX3_pace_0 rfl ?_
  by_cases s1_0 : kd = 1
  · skip
    refine r_tableAt (pc := 1) 40 0 dX3_pace_1 (by rw [s1_0]; decide) (by decide) rfl (by decide) ?_
    simp only [s1_0, if_true]
    refine r_iconst (pc := 40) (v := 3) dX3_pace_40 (by decide) ?_
    refine r_ireturn (pc := 41) (ty := .int) dX3_pace_41 rfl rfl ⟨Nat.zero_le _, Nat.zero_le _⟩ (fun gE hg => ?_)
    exact ⟨rfl, hg⟩
  by_cases s1_1 : kd = 2
  · skip
    refine r_tableAt (pc := 1) 48 1 dX3_pace_1 (by rw [s1_1]; decide) (by decide) rfl (by decide) ?_
    simp only [s1_1, if_true, show ¬ (2 : Int32) = 1 by decide, if_false]
    refine r_iconst (pc := 48) (v := 1) dX3_pace_48 (by decide) ?_
    refine r_ireturn (pc := 49) (ty := .int) dX3_pace_49 rfl rfl ⟨Nat.zero_le _, Nat.zero_le _⟩ (fun gE hg => ?_)
    exact ⟨rfl, hg⟩
  by_cases s1_2 : kd = 3
  · skip
    refine r_tableAt (pc := 1) 56 2 dX3_pace_1 (by rw [s1_2]; decide) (by decide) rfl (by decide) ?_
    simp only [s1_2, if_true, show ¬ (3 : Int32) = 1 by decide, show ¬ (3 : Int32) = 2 by decide, if_false]
    refine r_iload_n (pc := 56) dX3_pace_56 rfl ?_
    refine r_iconst (pc := 57) (v := 2) dX3_pace_57 (by decide) ?_
    refine r_irem' (pc := 58) dX3_pace_58 (by decide) ?_
    refine r_if_ne (pc := 59) 66 dX3_pace_59 (by decide) (fun c59 => ?_) (fun c59 => ?_)
    · skip
      try rw [if_neg c59]
      refine r_iconst (pc := 66) (v := 0) dX3_pace_66 (by decide) ?_
      refine r_ireturn (pc := 67) (ty := .int) dX3_pace_67 rfl rfl ⟨Nat.zero_le _, Nat.zero_le _⟩ (fun gE hg => ?_)
      exact ⟨rfl, hg⟩
    · skip
      try rw [if_pos c59]
      refine r_iconst (pc := 62) (v := 1) dX3_pace_62 (by decide) ?_
      refine r_goto (pc := 63) 67 dX3_pace_63 (by decide) ?_
      refine r_ireturn (pc := 67) (ty := .int) dX3_pace_67 rfl rfl ⟨Nat.zero_le _, Nat.zero_le _⟩ (fun gE hg => ?_)
      exact ⟨rfl, hg⟩
  by_cases s1_3 : kd = 4
  · skip
    refine r_tableAt (pc := 1) 42 3 dX3_pace_1 (by rw [s1_3]; decide) (by decide) rfl (by decide) ?_
    simp only [s1_3, if_true, show ¬ (4 : Int32) = 1 by decide, show ¬ (4 : Int32) = 2 by decide, show ¬ (4 : Int32) = 3 by decide, if_false]
    refine r_iconst (pc := 42) (v := 3) dX3_pace_42 (by decide) ?_
    refine r_iload_n (pc := 43) dX3_pace_43 rfl ?_
    refine r_iconst (pc := 44) (v := 4) dX3_pace_44 (by decide) ?_
    refine r_idiv (pc := 45) dX3_pace_45 (by decide) ?_
    refine r_iadd (pc := 46) dX3_pace_46 ?_
    refine r_ireturn (pc := 47) (ty := .int) dX3_pace_47 rfl rfl ⟨Nat.zero_le _, Nat.zero_le _⟩ (fun gE hg => ?_)
    exact ⟨rfl, hg⟩
  by_cases s1_4 : kd = 5
  · skip
    refine r_tableAt (pc := 1) 50 4 dX3_pace_1 (by rw [s1_4]; decide) (by decide) rfl (by decide) ?_
    simp only [s1_4, if_true, show ¬ (5 : Int32) = 1 by decide, show ¬ (5 : Int32) = 2 by decide, show ¬ (5 : Int32) = 3 by decide, show ¬ (5 : Int32) = 4 by decide, if_false]
    refine r_iconst (pc := 50) (v := 1) dX3_pace_50 (by decide) ?_
    refine r_iload_n (pc := 51) dX3_pace_51 rfl ?_
    refine r_iconst (pc := 52) (v := 3) dX3_pace_52 (by decide) ?_
    refine r_idiv (pc := 53) dX3_pace_53 (by decide) ?_
    refine r_iadd (pc := 54) dX3_pace_54 ?_
    refine r_ireturn (pc := 55) (ty := .int) dX3_pace_55 rfl rfl ⟨Nat.zero_le _, Nat.zero_le _⟩ (fun gE hg => ?_)
    exact ⟨rfl, hg⟩
  by_cases s1_5 : kd = 6
  · skip
    refine r_tableAt (pc := 1) 56 5 dX3_pace_1 (by rw [s1_5]; decide) (by decide) rfl (by decide) ?_
    simp only [s1_5, if_true, show ¬ (6 : Int32) = 1 by decide, show ¬ (6 : Int32) = 2 by decide, show ¬ (6 : Int32) = 3 by decide, show ¬ (6 : Int32) = 4 by decide, show ¬ (6 : Int32) = 5 by decide, if_false]
    refine r_iload_n (pc := 56) dX3_pace_56 rfl ?_
    refine r_iconst (pc := 57) (v := 2) dX3_pace_57 (by decide) ?_
    refine r_irem' (pc := 58) dX3_pace_58 (by decide) ?_
    refine r_if_ne (pc := 59) 66 dX3_pace_59 (by decide) (fun c59 => ?_) (fun c59 => ?_)
    · skip
      try rw [if_neg c59]
      refine r_iconst (pc := 66) (v := 0) dX3_pace_66 (by decide) ?_
      refine r_ireturn (pc := 67) (ty := .int) dX3_pace_67 rfl rfl ⟨Nat.zero_le _, Nat.zero_le _⟩ (fun gE hg => ?_)
      exact ⟨rfl, hg⟩
    · skip
      try rw [if_pos c59]
      refine r_iconst (pc := 62) (v := 1) dX3_pace_62 (by decide) ?_
      refine r_goto (pc := 63) 67 dX3_pace_63 (by decide) ?_
      refine r_ireturn (pc := 67) (ty := .int) dX3_pace_67 rfl rfl ⟨Nat.zero_le _, Nat.zero_le _⟩ (fun gE hg => ?_)
      exact ⟨rfl, hg⟩
  have t1_0 : ¬ (kd).toInt = 1 := fun q => s1_0 (Int32.toInt_inj.mp q)
  have t1_1 : ¬ (kd).toInt = 2 := fun q => s1_1 (Int32.toInt_inj.mp q)
  have t1_2 : ¬ (kd).toInt = 3 := fun q => s1_2 (Int32.toInt_inj.mp q)
  have t1_3 : ¬ (kd).toInt = 4 := fun q => s1_3 (Int32.toInt_inj.mp q)
  have t1_4 : ¬ (kd).toInt = 5 := fun q => s1_4 (Int32.toInt_inj.mp q)
  have t1_5 : ¬ (kd).toInt = 6 := fun q => s1_5 (Int32.toInt_inj.mp q)
  refine r_tableOut (pc := 1) 68 dX3_pace_1 (by omega) (by decide) ?_
  simp only [s1_0, s1_1, s1_2, s1_3, s1_4, s1_5, if_false]
  refine r_iconst (pc := 68) (v := 2) dX3_pace_68 (by decide) ?_
  refine r_ireturn (pc := 69) (ty := .int) dX3_pace_69 rfl rfl ⟨Nat.zero_le _, Nat.zero_le _⟩ (fun gE hg => ?_)
  exact ⟨rfl, hg⟩
set_option maxHeartbeats 4000000 in
theorem ct_Kinds_load {kd m : Int32} (g : AH) : CT 1 0 0 mX3_load [.int kd, .int m] g (fun v g' => v = some (.int (loadI kd m)) ∧ g' = g) := by
  refine ct_of (by decide) (fun _ _ => Nat.le_of_ble_eq_true rfl) ?_
  dsimp only [pad, ent]
  unfold loadI
  refine r_iload_n (pc := 0) dX3_load_0 rfl ?_
  by_cases s1_0 : kd = 2
  · skip
    refine r_tableAt (pc := 1) 36 0 dX3_load_1 (by rw [s1_0]; decide) (by decide) rfl (by decide) ?_
    simp only [s1_0, if_true]
    refine r_iconst (pc := 36) (v := 3) dX3_load_36 (by decide) ?_
    refine r_iload_n (pc := 37) dX3_load_37 rfl ?_
    refine r_iconst (pc := 38) (v := 3) dX3_load_38 (by decide) ?_
    refine r_irem' (pc := 39) dX3_load_39 (by decide) ?_
    refine r_iadd (pc := 40) dX3_load_40 ?_
    refine r_ireturn (pc := 41) (ty := .int) dX3_load_41 rfl rfl ⟨Nat.zero_le _, Nat.zero_le _⟩ (fun gE hg => ?_)
    exact ⟨rfl, hg⟩
  by_cases s1_1 : kd = 3
  · skip
    refine r_tableAt (pc := 1) 50 1 dX3_load_1 (by rw [s1_1]; decide) (by decide) rfl (by decide) ?_
    simp only [s1_1, if_true, show ¬ (3 : Int32) = 2 by decide, if_false]
    refine r_bipush (pc := 50) (v := 9) dX3_load_50 (by decide) ?_
    refine r_ireturn (pc := 52) (ty := .int) dX3_load_52 rfl rfl ⟨Nat.zero_le _, Nat.zero_le _⟩ (fun gE hg => ?_)
    exact ⟨rfl, hg⟩
  by_cases s1_2 : kd = 4
  · skip
    refine r_tableAt (pc := 1) 55 2 dX3_load_1 (by rw [s1_2]; decide) (by decide) rfl (by decide) ?_
    simp only [s1_2, if_true, show ¬ (4 : Int32) = 2 by decide, show ¬ (4 : Int32) = 3 by decide, if_false]
    refine r_iconst (pc := 55) (v := 2) dX3_load_55 (by decide) ?_
    refine r_ireturn (pc := 56) (ty := .int) dX3_load_56 rfl rfl ⟨Nat.zero_le _, Nat.zero_le _⟩ (fun gE hg => ?_)
    exact ⟨rfl, hg⟩
  by_cases s1_3 : kd = 5
  · skip
    refine r_tableAt (pc := 1) 42 3 dX3_load_1 (by rw [s1_3]; decide) (by decide) rfl (by decide) ?_
    simp only [s1_3, if_true, show ¬ (5 : Int32) = 2 by decide, show ¬ (5 : Int32) = 3 by decide, show ¬ (5 : Int32) = 4 by decide, if_false]
    refine r_iconst (pc := 42) (v := 3) dX3_load_42 (by decide) ?_
    refine r_iload_n (pc := 43) dX3_load_43 rfl ?_
    refine r_iconst (pc := 44) (v := 3) dX3_load_44 (by decide) ?_
    refine r_irem' (pc := 45) dX3_load_45 (by decide) ?_
    refine r_iadd (pc := 46) dX3_load_46 ?_
    refine r_iconst (pc := 47) (v := 1) dX3_load_47 (by decide) ?_
    refine r_isub (pc := 48) dX3_load_48 ?_
    refine r_ireturn (pc := 49) (ty := .int) dX3_load_49 rfl rfl ⟨Nat.zero_le _, Nat.zero_le _⟩ (fun gE hg => ?_)
    exact ⟨rfl, hg⟩
  by_cases s1_4 : kd = 6
  · skip
    refine r_tableAt (pc := 1) 53 4 dX3_load_1 (by rw [s1_4]; decide) (by decide) rfl (by decide) ?_
    simp only [s1_4, if_true, show ¬ (6 : Int32) = 2 by decide, show ¬ (6 : Int32) = 3 by decide, show ¬ (6 : Int32) = 4 by decide, show ¬ (6 : Int32) = 5 by decide, if_false]
    refine r_iconst (pc := 53) (v := 4) dX3_load_53 (by decide) ?_
    refine r_ireturn (pc := 54) (ty := .int) dX3_load_54 rfl rfl ⟨Nat.zero_le _, Nat.zero_le _⟩ (fun gE hg => ?_)
    exact ⟨rfl, hg⟩
  have t1_0 : ¬ (kd).toInt = 2 := fun q => s1_0 (Int32.toInt_inj.mp q)
  have t1_1 : ¬ (kd).toInt = 3 := fun q => s1_1 (Int32.toInt_inj.mp q)
  have t1_2 : ¬ (kd).toInt = 4 := fun q => s1_2 (Int32.toInt_inj.mp q)
  have t1_3 : ¬ (kd).toInt = 5 := fun q => s1_3 (Int32.toInt_inj.mp q)
  have t1_4 : ¬ (kd).toInt = 6 := fun q => s1_4 (Int32.toInt_inj.mp q)
  refine r_tableOut (pc := 1) 55 dX3_load_1 (by omega) (by decide) ?_
  simp only [s1_0, s1_1, s1_2, s1_3, s1_4, if_false]
  refine r_iconst (pc := 55) (v := 2) dX3_load_55 (by decide) ?_
  refine r_ireturn (pc := 56) (ty := .int) dX3_load_56 rfl rfl ⟨Nat.zero_le _, Nat.zero_le _⟩ (fun gE hg => ?_)
  exact ⟨rfl, hg⟩
set_option maxHeartbeats 4000000 in
theorem ct_Kinds_uses {kd m : Int32} (g : AH) : CT 1 0 0 mX3_uses [.int kd, .int m] g (fun v g' => v = some (.int (usesI kd m)) ∧ g' = g) := by
  refine ct_of (by decide) (fun _ _ => Nat.le_of_ble_eq_true rfl) ?_
  dsimp only [pad, ent]
  unfold usesI
  refine r_iload_n (pc := 0) dX3_uses_0 rfl ?_
  by_cases s1_0 : kd = 3
  · skip
    refine r_lookup (pc := 1) (off := 27) 28 dX3_uses_1 (by decide) (by rw [s1_0]; decide) (by decide) ?_
    simp only [s1_0, if_true]
    refine r_iconst (pc := 28) (v := 2) dX3_uses_28 (by decide) ?_
    refine r_ireturn (pc := 29) (ty := .int) dX3_uses_29 rfl rfl ⟨Nat.zero_le _, Nat.zero_le _⟩ (fun gE hg => ?_)
    exact ⟨rfl, hg⟩
  by_cases s1_1 : kd = 6
  · skip
    refine r_lookup (pc := 1) (off := 29) 30 dX3_uses_1 (by decide) (by rw [s1_1]; decide) (by decide) ?_
    simp only [s1_1, if_true, show ¬ (6 : Int32) = 3 by decide, if_false]
    refine r_iconst (pc := 30) (v := 2) dX3_uses_30 (by decide) ?_
    refine r_iload_n (pc := 31) dX3_uses_31 rfl ?_
    refine r_iconst (pc := 32) (v := 2) dX3_uses_32 (by decide) ?_
    refine r_irem' (pc := 33) dX3_uses_33 (by decide) ?_
    refine r_iadd (pc := 34) dX3_uses_34 ?_
    refine r_ireturn (pc := 35) (ty := .int) dX3_uses_35 rfl rfl ⟨Nat.zero_le _, Nat.zero_le _⟩ (fun gE hg => ?_)
    exact ⟨rfl, hg⟩
  have t1_0 : ¬ (kd).toInt = 3 := fun q => s1_0 (Int32.toInt_inj.mp q)
  have t1_1 : ¬ (kd).toInt = 6 := fun q => s1_1 (Int32.toInt_inj.mp q)
  refine r_lookup (pc := 1) (off := 35) 36 dX3_uses_1 (by decide) (by simp [Op.lookupswitch.offset, t1_0, t1_1] <;> omega) (by decide) ?_
  simp only [s1_0, s1_1, if_false]
  refine r_iconst (pc := 36) (v := 1) dX3_uses_36 (by decide) ?_
  refine r_ireturn (pc := 37) (ty := .int) dX3_uses_37 rfl rfl ⟨Nat.zero_le _, Nat.zero_le _⟩ (fun gE hg => ?_)
  exact ⟨rfl, hg⟩
set_option maxHeartbeats 4000000 in
theorem ct_Kinds_minutesFor {kd m k : Int32} (g : AH) : CT 2 0 0 mX3_minutesFor [.int kd, .int m, .int k] g (fun v g' => v = some (.int (mfI kd m k)) ∧ g' = g) := by
  refine ct_of (by decide) (fun _ _ => Nat.le_of_ble_eq_true rfl) ?_
  dsimp only [pad, ent]
  unfold mfI newI
  refine r_iload_n (pc := 0) dX3_minutesFor_0 rfl ?_
  refine r_iload_n (pc := 1) dX3_minutesFor_1 rfl ?_
  refine r_Sp (pc := 2) (μ' := mX3_load) dX3_minutesFor_2 nX3_17 sX3_load kX3_load rfl rfl (rr (by decide) rfl) rfl ⟨Nat.zero_le _, Nat.zero_le _⟩ (fun h => ct_Kinds_load h) ?_
  refine r_istore_n (pc := 5) dX3_minutesFor_5 rfl (Nat.le_of_ble_eq_true rfl) rfl ?_
  dsimp only [lset]
  refine r_iload_n (pc := 6) dX3_minutesFor_6 rfl ?_
  refine r_if_eq (pc := 7) 24 dX3_minutesFor_7 (by decide) (fun c7 => ?_) (fun c7 => ?_)
  · skip
    rw [if_neg (fun q => q.1 c7)]
    refine r_iconst (pc := 24) (v := 0) dX3_minutesFor_24 (by decide) ?_
    refine r_istore (pc := 25) dX3_minutesFor_25 (Nat.le_of_ble_eq_true rfl) rfl ?_
    dsimp only [lset]
    refine r_iload_n (pc := 27) dX3_minutesFor_27 rfl ?_
    refine r_iload_n (pc := 28) dX3_minutesFor_28 rfl ?_
    refine r_iload_n (pc := 29) dX3_minutesFor_29 rfl ?_
    refine r_Sp (pc := 30) (μ' := mX3_pace) dX3_minutesFor_30 nX3_21 sX3_pace kX3_pace rfl rfl (rr (by decide) rfl) rfl ⟨Nat.zero_le _, Nat.zero_le _⟩ (fun h => ct_Kinds_pace h) ?_
    refine r_iload (pc := 33) dX3_minutesFor_33 rfl ?_
    refine r_if_eq (pc := 35) 42 dX3_minutesFor_35 (by decide) (fun c35 => ?_) (fun c35 => ?_)
    · skip
      first
      | exact absurd c35 (by decide)
      | skip
        refine r_iconst (pc := 42) (v := 0) dX3_minutesFor_42 (by decide) ?_
        refine r_iadd (pc := 43) dX3_minutesFor_43 ?_
        refine r_ireturn (pc := 44) (ty := .int) dX3_minutesFor_44 rfl rfl ⟨Nat.zero_le _, Nat.zero_le _⟩ (fun gE hg => ?_)
        exact ⟨rfl, hg⟩
    · skip
      first
      | exact absurd (show (0 : Int32) = 0 from rfl) c35
      | skip
        refine r_iconst (pc := 38) (v := 1) dX3_minutesFor_38 (by decide) ?_
        refine r_goto (pc := 39) 43 dX3_minutesFor_39 (by decide) ?_
        refine r_iadd (pc := 43) dX3_minutesFor_43 ?_
        refine r_ireturn (pc := 44) (ty := .int) dX3_minutesFor_44 rfl rfl ⟨Nat.zero_le _, Nat.zero_le _⟩ (fun gE hg => ?_)
        exact ⟨rfl, hg⟩
  · skip
    refine r_iload_n (pc := 10) dX3_minutesFor_10 rfl ?_
    refine r_if_le (pc := 11) 24 dX3_minutesFor_11 (by decide) (fun c11 => ?_) (fun c11 => ?_)
    · skip
      rw [if_neg (fun q => q.2.1 c11)]
      refine r_iconst (pc := 24) (v := 0) dX3_minutesFor_24 (by decide) ?_
      refine r_istore (pc := 25) dX3_minutesFor_25 (Nat.le_of_ble_eq_true rfl) rfl ?_
      dsimp only [lset]
      refine r_iload_n (pc := 27) dX3_minutesFor_27 rfl ?_
      refine r_iload_n (pc := 28) dX3_minutesFor_28 rfl ?_
      refine r_iload_n (pc := 29) dX3_minutesFor_29 rfl ?_
      refine r_Sp (pc := 30) (μ' := mX3_pace) dX3_minutesFor_30 nX3_21 sX3_pace kX3_pace rfl rfl (rr (by decide) rfl) rfl ⟨Nat.zero_le _, Nat.zero_le _⟩ (fun h => ct_Kinds_pace h) ?_
      refine r_iload (pc := 33) dX3_minutesFor_33 rfl ?_
      refine r_if_eq (pc := 35) 42 dX3_minutesFor_35 (by decide) (fun c35 => ?_) (fun c35 => ?_)
      · skip
        first
        | exact absurd c35 (by decide)
        | skip
          refine r_iconst (pc := 42) (v := 0) dX3_minutesFor_42 (by decide) ?_
          refine r_iadd (pc := 43) dX3_minutesFor_43 ?_
          refine r_ireturn (pc := 44) (ty := .int) dX3_minutesFor_44 rfl rfl ⟨Nat.zero_le _, Nat.zero_le _⟩ (fun gE hg => ?_)
          exact ⟨rfl, hg⟩
      · skip
        first
        | exact absurd (show (0 : Int32) = 0 from rfl) c35
        | skip
          refine r_iconst (pc := 38) (v := 1) dX3_minutesFor_38 (by decide) ?_
          refine r_goto (pc := 39) 43 dX3_minutesFor_39 (by decide) ?_
          refine r_iadd (pc := 43) dX3_minutesFor_43 ?_
          refine r_ireturn (pc := 44) (ty := .int) dX3_minutesFor_44 rfl rfl ⟨Nat.zero_le _, Nat.zero_le _⟩ (fun gE hg => ?_)
          exact ⟨rfl, hg⟩
    · skip
      refine r_iload_n (pc := 14) dX3_minutesFor_14 rfl ?_
      refine r_iload_n (pc := 15) dX3_minutesFor_15 rfl ?_
      refine r_irem' (pc := 16) dX3_minutesFor_16 (fun q => c11 (by rw [q]; decide)) ?_
      refine r_if_ne (pc := 17) 24 dX3_minutesFor_17 (by decide) (fun c17 => ?_) (fun c17 => ?_)
      · skip
        rw [if_neg (fun q => c17 q.2.2)]
        refine r_iconst (pc := 24) (v := 0) dX3_minutesFor_24 (by decide) ?_
        refine r_istore (pc := 25) dX3_minutesFor_25 (Nat.le_of_ble_eq_true rfl) rfl ?_
        dsimp only [lset]
        refine r_iload_n (pc := 27) dX3_minutesFor_27 rfl ?_
        refine r_iload_n (pc := 28) dX3_minutesFor_28 rfl ?_
        refine r_iload_n (pc := 29) dX3_minutesFor_29 rfl ?_
        refine r_Sp (pc := 30) (μ' := mX3_pace) dX3_minutesFor_30 nX3_21 sX3_pace kX3_pace rfl rfl (rr (by decide) rfl) rfl ⟨Nat.zero_le _, Nat.zero_le _⟩ (fun h => ct_Kinds_pace h) ?_
        refine r_iload (pc := 33) dX3_minutesFor_33 rfl ?_
        refine r_if_eq (pc := 35) 42 dX3_minutesFor_35 (by decide) (fun c35 => ?_) (fun c35 => ?_)
        · skip
          first
          | exact absurd c35 (by decide)
          | skip
            refine r_iconst (pc := 42) (v := 0) dX3_minutesFor_42 (by decide) ?_
            refine r_iadd (pc := 43) dX3_minutesFor_43 ?_
            refine r_ireturn (pc := 44) (ty := .int) dX3_minutesFor_44 rfl rfl ⟨Nat.zero_le _, Nat.zero_le _⟩ (fun gE hg => ?_)
            exact ⟨rfl, hg⟩
        · skip
          first
          | exact absurd (show (0 : Int32) = 0 from rfl) c35
          | skip
            refine r_iconst (pc := 38) (v := 1) dX3_minutesFor_38 (by decide) ?_
            refine r_goto (pc := 39) 43 dX3_minutesFor_39 (by decide) ?_
            refine r_iadd (pc := 43) dX3_minutesFor_43 ?_
            refine r_ireturn (pc := 44) (ty := .int) dX3_minutesFor_44 rfl rfl ⟨Nat.zero_le _, Nat.zero_le _⟩ (fun gE hg => ?_)
            exact ⟨rfl, hg⟩
      · skip
        rw [if_pos ⟨c7, c11, c17⟩]
        refine r_iconst (pc := 20) (v := 1) dX3_minutesFor_20 (by decide) ?_
        refine r_goto (pc := 21) 25 dX3_minutesFor_21 (by decide) ?_
        refine r_istore (pc := 25) dX3_minutesFor_25 (Nat.le_of_ble_eq_true rfl) rfl ?_
        dsimp only [lset]
        refine r_iload_n (pc := 27) dX3_minutesFor_27 rfl ?_
        refine r_iload_n (pc := 28) dX3_minutesFor_28 rfl ?_
        refine r_iload_n (pc := 29) dX3_minutesFor_29 rfl ?_
        refine r_Sp (pc := 30) (μ' := mX3_pace) dX3_minutesFor_30 nX3_21 sX3_pace kX3_pace rfl rfl (rr (by decide) rfl) rfl ⟨Nat.zero_le _, Nat.zero_le _⟩ (fun h => ct_Kinds_pace h) ?_
        refine r_iload (pc := 33) dX3_minutesFor_33 rfl ?_
        refine r_if_eq (pc := 35) 42 dX3_minutesFor_35 (by decide) (fun c35 => ?_) (fun c35 => ?_)
        · skip
          first
          | exact absurd c35 (by decide)
          | skip
            refine r_iconst (pc := 42) (v := 0) dX3_minutesFor_42 (by decide) ?_
            refine r_iadd (pc := 43) dX3_minutesFor_43 ?_
            refine r_ireturn (pc := 44) (ty := .int) dX3_minutesFor_44 rfl rfl ⟨Nat.zero_le _, Nat.zero_le _⟩ (fun gE hg => ?_)
            exact ⟨rfl, hg⟩
        · skip
          first
          | exact absurd (show (0 : Int32) = 0 from rfl) c35
          | skip
            refine r_iconst (pc := 38) (v := 1) dX3_minutesFor_38 (by decide) ?_
            refine r_goto (pc := 39) 43 dX3_minutesFor_39 (by decide) ?_
            refine r_iadd (pc := 43) dX3_minutesFor_43 ?_
            refine r_ireturn (pc := 44) (ty := .int) dX3_minutesFor_44 rfl rfl ⟨Nat.zero_le _, Nat.zero_le _⟩ (fun gE hg => ?_)
            exact ⟨rfl, hg⟩
theorem dseq_s {kd m mi : Int32} {k : Nat} : dseq kd m mi (k + 1) = dseq kd m mi k + mfI kd m (nI k) := rfl
theorem all_false {n k : Nat} {p : Nat → Bool} (hk : k < n) (h : p k = false) : (List.range n).all p = false := by
  apply Bool.eq_false_iff.mpr
  intro q
  rw [List.all_eq_true.mp q k (List.mem_range.mpr hk)] at h
  cases h
theorem all_true {n : Nat} {p : Nat → Bool} (h : ∀ k, k < n → p k = true) : (List.range n).all p = true := List.all_eq_true.mpr fun k hk => h k (List.mem_range.mp hk)
set_option maxHeartbeats 4000000 in
theorem ct_Kinds_doesAt {r cap : Nat} {l : List Int32} {mi kd m : Int32} {g : AH} (hR : RowAt r cap l g) : CT 3 0 0 mX3_doesAt [.ref r, .int mi, .int kd, .int m] g (fun v g' => v = some (.int (b2i (doesB l mi kd m))) ∧ g' = g) := by
  refine ct_of (by decide) (fun _ _ => Nat.le_of_ble_eq_true rfl) ?_
  dsimp only [pad, ent]
  have hl := hR.2.1
  have hc := hR.2.2.1
  have hT := nI_T (n := l.length) (by omega)
  have hR2 : ∀ g', g' = g → RowAt r cap l g' := fun g' e => by rw [e]; exact hR
  have L : ∀ k, k ≤ l.length → (∀ j, j < k → l.getD j 0 = dseq kd m mi (j + 1)) → AW (fun _ => True) (rmd 3 0 0) mX3_doesAt 0 0 6 [some (.ref r), some (.int mi), some (.int kd), some (.int m), some (.int (dseq kd m mi k)), some (.int (nI k))] [] (fun g' => g' = g) (fun v g' => v = some (.int (b2i (doesB l mi kd m))) ∧ g' = g) := by
    refine up_loop ?_ ?_
    · intro hj
      have hB : doesB l mi kd m = true := all_true fun k hk => decide_eq_true (hj k hk)
      rw [hB]
      refine r_iload (pc := 6) dX3_doesAt_6 rfl ?_
      refine r_aload_n (pc := 8) dX3_doesAt_8 rfl ?_
      refine r_Vi (pc := 9) (μ' := mX5_length) dX3_doesAt_9 nX3_29 iX5_length vX5_length kX5_length rfl rfl (rr (by decide) rfl) rfl ⟨Nat.zero_le _, Nat.zero_le _⟩ (fun g' q => ct_Row_length (hR2 g' q) q) ?_
      refine r_icmp_ge (pc := 12) 46 dX3_doesAt_12 (by decide) (fun c12 => ?_) (fun c12 => ?_)
      · skip
        refine r_iconst (pc := 46) (v := 1) dX3_doesAt_46 (by decide) ?_
        refine r_ireturn (pc := 47) (ty := .boolean) dX3_doesAt_47 rfl rfl ⟨Nat.zero_le _, Nat.zero_le _⟩ (fun gE hg => ?_)
        exact ⟨rfl, hg⟩
      · skip
        exact absurd (fa_le.mpr (Int.le_refl _)) c12
    · intro k hk ih hj
      have hTk := nI_T (n := k) (by omega)
      refine r_iload (pc := 6) dX3_doesAt_6 rfl ?_
      refine r_aload_n (pc := 8) dX3_doesAt_8 rfl ?_
      refine r_Vi (pc := 9) (μ' := mX5_length) dX3_doesAt_9 nX3_29 iX5_length vX5_length kX5_length rfl rfl (rr (by decide) rfl) rfl ⟨Nat.zero_le _, Nat.zero_le _⟩ (fun g' q => ct_Row_length (hR2 g' q) q) ?_
      refine r_icmp_ge (pc := 12) 46 dX3_doesAt_12 (by decide) (fun c12 => ?_) (fun c12 => ?_)
      · skip
        exact absurd c12 (fun q => by have := fa_le.mp q; omega)
      · skip
        refine r_iload (pc := 15) dX3_doesAt_15 rfl ?_
        refine r_iload_n (pc := 17) dX3_doesAt_17 rfl ?_
        refine r_iload_n (pc := 18) dX3_doesAt_18 rfl ?_
        refine r_iload (pc := 19) dX3_doesAt_19 rfl ?_
        refine r_Sp (pc := 21) (μ' := mX3_minutesFor) dX3_doesAt_21 nX3_35 sX3_minutesFor kX3_minutesFor rfl rfl (rr (by decide) rfl) rfl ⟨Nat.zero_le _, Nat.zero_le _⟩ (fun h => ct_Kinds_minutesFor h) ?_
        refine r_iadd (pc := 24) dX3_doesAt_24 ?_
        rw [show dseq kd m mi k + mfI kd m (nI k) = dseq kd m mi (k + 1) from rfl]
        refine r_istore (pc := 25) dX3_doesAt_25 (Nat.le_of_ble_eq_true rfl) rfl ?_
        dsimp only [lset]
        refine r_aload_n (pc := 27) dX3_doesAt_27 rfl ?_
        refine r_iload (pc := 28) dX3_doesAt_28 rfl ?_
        refine r_Vi (pc := 30) (μ' := mX5_at) dX3_doesAt_30 nX3_38 iX5_at vX5_at kX5_at rfl rfl (rr (by decide) rfl) rfl ⟨Nat.zero_le _, Nat.zero_le _⟩ (fun g' q => ct_Row_at (hR2 g' q) q) ?_
        rw [atL_nI (show k ≤ 4000 by omega)]
        refine r_iload (pc := 33) dX3_doesAt_33 rfl ?_
        refine r_icmp_eq (pc := 35) 40 dX3_doesAt_35 (by decide) (fun c35 => ?_) (fun c35 => ?_)
        · skip
          refine r_iinc1 (pc := 40) dX3_doesAt_40 rfl (Nat.le_of_ble_eq_true rfl) rfl ?_
          dsimp only [lset]
          refine r_goto (pc := 43) 6 dX3_doesAt_43 (by decide) ?_
          rw [nI_s]
          exact ih (fun j hj2 => by
            by_cases e : j = k
            · rw [e]; exact c35
            · exact hj j (by omega))
        · skip
          have hB : doesB l mi kd m = false := all_false hk (decide_eq_false c35)
          refine r_iconst (pc := 38) (v := 0) dX3_doesAt_38 (by decide) ?_
          refine r_ireturn (pc := 39) (ty := .boolean) dX3_doesAt_39 rfl rfl ⟨Nat.zero_le _, Nat.zero_le _⟩ (fun gE hg => ?_)
          rw [hB]
          exact ⟨rfl, hg⟩
  refine r_iload_n (pc := 0) dX3_doesAt_0 rfl ?_
  refine r_istore (pc := 1) dX3_doesAt_1 (Nat.le_of_ble_eq_true rfl) rfl ?_
  dsimp only [lset]
  refine r_iconst (pc := 3) (v := 0) dX3_doesAt_3 (by decide) ?_
  refine r_istore (pc := 4) dX3_doesAt_4 (Nat.le_of_ble_eq_true rfl) rfl ?_
  dsimp only [lset]
  exact L 0 (Nat.zero_le _) (fun j hj => absurd hj (Nat.not_lt_zero j))
set_option maxHeartbeats 4000000 in
theorem ct_Kinds_leastBy {r cap : Nat} {l : List Int32} {mi m : Int32} {g : AH} (hR : RowAt r cap l g) : CT 4 0 0 mX3_leastBy [.ref r, .int mi, .int m] g (fun v g' => v = some (.int (lbI l mi m)) ∧ g' = g) := by
  refine ct_of (by decide) (fun _ _ => Nat.le_of_ble_eq_true rfl) ?_
  dsimp only [pad, ent]
  have L : ∀ k, k ≤ 7 → (∀ j, j < k → doesB l mi (nI j) m = false) → AW (fun _ => True) (rmd 4 0 0) mX3_leastBy 0 0 2 [some (.ref r), some (.int mi), some (.int m), some (.int (nI k))] [] (fun g' => g' = g) (fun v g' => v = some (.int (lbI l mi m)) ∧ g' = g) := by
    refine up_loop ?_ ?_
    · intro hj
      have hB : lbI l mi m = -1 := by
        unfold lbI
        rw [List.find?_eq_none.mpr (fun x hx => by rw [hj x (List.mem_range.mp hx)]; decide)]
      rw [hB]
      refine r_iload_n (pc := 2) dX3_leastBy_2 rfl ?_
      refine r_bipush (pc := 3) (v := 7) dX3_leastBy_3 (by decide) ?_
      refine r_icmp_ge (pc := 5) 26 dX3_leastBy_5 (by decide) (fun c5 => ?_) (fun c5 => ?_)
      · skip
        refine r_iconst (pc := 26) (v := (-1)) dX3_leastBy_26 (by decide) ?_
        refine r_ireturn (pc := 27) (ty := .int) dX3_leastBy_27 rfl rfl ⟨Nat.zero_le _, Nat.zero_le _⟩ (fun gE hg => ?_)
        exact ⟨rfl, hg⟩
      · skip
        exact absurd (show (7 : Int32) ≤ nI 7 by decide) c5
    · intro k hk ih hj
      have hTk := nI_T (n := k) (by omega)
      refine r_iload_n (pc := 2) dX3_leastBy_2 rfl ?_
      refine r_bipush (pc := 3) (v := 7) dX3_leastBy_3 (by decide) ?_
      refine r_icmp_ge (pc := 5) 26 dX3_leastBy_5 (by decide) (fun c5 => ?_) (fun c5 => ?_)
      · skip
        exact absurd (fa_le.mp c5) (by rw [hTk, show (7 : Int32).toInt = 7 from rfl]; omega)
      · skip
        refine r_aload_n (pc := 8) dX3_leastBy_8 rfl ?_
        refine r_iload_n (pc := 9) dX3_leastBy_9 rfl ?_
        refine r_iload_n (pc := 10) dX3_leastBy_10 rfl ?_
        refine r_iload_n (pc := 11) dX3_leastBy_11 rfl ?_
        refine r_Si (pc := 12) (μ' := mX3_doesAt) dX3_leastBy_12 nX3_25 sX3_doesAt kX3_doesAt rfl rfl (rr (by decide) rfl) rfl ⟨Nat.zero_le _, Nat.zero_le _⟩ (fun g' q => (ct_Kinds_doesAt (g := g') (l := l) (cap := cap) (by rw [q]; exact hR)).mono (fun v g2 a => ⟨a.1, a.2.trans q⟩)) ?_
        refine r_if_eq (pc := 15) 20 dX3_leastBy_15 (by decide) (fun c15 => ?_) (fun c15 => ?_)
        · skip
          have c16 : doesB l mi (nI k) m = false := by
            cases h : doesB l mi (nI k) m with
            | true => rw [h] at c15; exact absurd c15 (by decide)
            | false => rfl
          refine r_iinc1 (pc := 20) dX3_leastBy_20 rfl (Nat.le_of_ble_eq_true rfl) rfl ?_
          dsimp only [lset]
          refine r_goto (pc := 23) 2 dX3_leastBy_23 (by decide) ?_
          rw [nI_s]
          exact ih (fun j hj2 => by
            by_cases e : j = k
            · rw [e]; exact c16
            · exact hj j (by omega))
        · skip
          have c16 : doesB l mi (nI k) m = true := by
            cases h : doesB l mi (nI k) m with
            | false => rw [h] at c15; exact absurd (show b2i false = 0 from rfl) c15
            | true => rfl
          refine r_iload_n (pc := 18) dX3_leastBy_18 rfl ?_
          refine r_ireturn (pc := 19) (ty := .int) dX3_leastBy_19 rfl rfl ⟨Nat.zero_le _, Nat.zero_le _⟩ (fun gE hg => ?_)
          refine ⟨?_, hg⟩
          have hB : lbI l mi m = nI k := by
            unfold lbI
            have hs : (List.range 7).find? (fun kd => doesB l mi (nI kd) m) = some k := List.find?_range_eq_some.mpr ⟨c16, List.mem_range.mpr hk, fun j hj2 => by rw [hj j hj2]; rfl⟩
            rw [hs]
          rw [hB]
  refine r_iconst (pc := 0) (v := 0) dX3_leastBy_0 (by decide) ?_
  refine r_istore_n (pc := 1) dX3_leastBy_1 rfl (Nat.le_of_ble_eq_true rfl) rfl ?_
  dsimp only [lset]
  exact L 0 (Nat.zero_le _) (fun j hj => absurd hj (Nat.not_lt_zero j))
