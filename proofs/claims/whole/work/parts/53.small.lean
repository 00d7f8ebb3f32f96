/-! THE REFERENCE: its small methods -/
theorem nar_b (b : Bool) : narrow .boolean (.int (b2i b)) = .int (b2i b) := by cases b <;> rfl
theorem ct_M_in {v a b : Int32} (g : AH) : CT 1 0 0 mX12_in [.int v, .int a, .int b] g (fun w g' => w = some (.int (b2i (wiB v a b))) ∧ g' = g) := by
  refine ct_of (by decide) (fun _ _ => Nat.le_of_ble_eq_true rfl) ?_
  dsimp only [pad, ent]
  unfold wiB
  refine r_iload_n (pc := 0) dX12_in_0 rfl ?_
  refine r_iload_n (pc := 1) dX12_in_1 rfl ?_
  refine r_icmp_lt (pc := 2) 14 dX12_in_2 (by decide) (fun c2 => ?_) (fun c2 => ?_)
  · skip
    have k2 := fa_lt.mp c2
    refine r_iconst (pc := 14) (v := 0) dX12_in_14 (by decide) ?_
    refine r_ireturn (pc := 15) (ty := .boolean) dX12_in_15 rfl rfl ⟨Nat.zero_le _, Nat.zero_le _⟩ (fun gE hg => ?_)
    first
    | exact ⟨by rw [decide_eq_true (by omega)]; rfl, hg⟩
    | exact ⟨by rw [decide_eq_false (by omega)]; rfl, hg⟩
  · skip
    have k2 : ¬ v.toInt < a.toInt := fun q => c2 (fa_lt.mpr q)
    refine r_iload_n (pc := 5) dX12_in_5 rfl ?_
    refine r_iload_n (pc := 6) dX12_in_6 rfl ?_
    refine r_icmp_gt (pc := 7) 14 dX12_in_7 (by decide) (fun c7 => ?_) (fun c7 => ?_)
    · skip
      have k7 := fa_lt.mp c7
      refine r_iconst (pc := 14) (v := 0) dX12_in_14 (by decide) ?_
      refine r_ireturn (pc := 15) (ty := .boolean) dX12_in_15 rfl rfl ⟨Nat.zero_le _, Nat.zero_le _⟩ (fun gE hg => ?_)
      first
      | exact ⟨by rw [decide_eq_true (by omega)]; rfl, hg⟩
      | exact ⟨by rw [decide_eq_false (by omega)]; rfl, hg⟩
    · skip
      have k7 : ¬ b.toInt < v.toInt := fun q => c7 (fa_lt.mpr q)
      refine r_iconst (pc := 10) (v := 1) dX12_in_10 (by decide) ?_
      refine r_goto (pc := 11) 15 dX12_in_11 (by decide) ?_
      refine r_ireturn (pc := 15) (ty := .boolean) dX12_in_15 rfl rfl ⟨Nat.zero_le _, Nat.zero_le _⟩ (fun gE hg => ?_)
      first
      | exact ⟨by rw [decide_eq_true (by omega)]; rfl, hg⟩
      | exact ⟨by rw [decide_eq_false (by omega)]; rfl, hg⟩
def heI (v a b : Int32) : Int32 := if v < a then a else if b < v then b else v
theorem ct_M_held {v a b : Int32} (g : AH) : CT 1 0 0 mX12_held [.int v, .int a, .int b] g (fun w g' => w = some (.int (heI v a b)) ∧ g' = g) := by
  refine ct_of (by decide) (fun _ _ => Nat.le_of_ble_eq_true rfl) ?_
  dsimp only [pad, ent]
  unfold heI
  refine r_iload_n (pc := 0) dX12_held_0 rfl ?_
  refine r_iload_n (pc := 1) dX12_held_1 rfl ?_
  refine r_icmp_ge (pc := 2) 9 dX12_held_2 (by decide) (fun c2 => ?_) (fun c2 => ?_)
  · skip
    have k2 : ¬ v < a := fun q => by have := fa_lt.mp q; have := fa_le.mp c2; omega
    rw [if_neg k2]
    refine r_iload_n (pc := 9) dX12_held_9 rfl ?_
    refine r_iload_n (pc := 10) dX12_held_10 rfl ?_
    refine r_icmp_le (pc := 11) 18 dX12_held_11 (by decide) (fun c11 => ?_) (fun c11 => ?_)
    · skip
      have k3 : ¬ b < v := fun q => by have := fa_lt.mp q; have := fa_le.mp c11; omega
      rw [if_neg k3]
      refine r_iload_n (pc := 18) dX12_held_18 rfl ?_
      refine r_ireturn (pc := 19) (ty := .int) dX12_held_19 rfl rfl ⟨Nat.zero_le _, Nat.zero_le _⟩ (fun gE hg => ?_)
      exact ⟨rfl, hg⟩
    · skip
      have k3 : b < v := fa_lt.mpr (by have : ¬ v.toInt ≤ b.toInt := fun q => c11 (fa_le.mpr q); omega)
      rw [if_pos k3]
      refine r_iload_n (pc := 14) dX12_held_14 rfl ?_
      refine r_goto (pc := 15) 19 dX12_held_15 (by decide) ?_
      refine r_ireturn (pc := 19) (ty := .int) dX12_held_19 rfl rfl ⟨Nat.zero_le _, Nat.zero_le _⟩ (fun gE hg => ?_)
      exact ⟨rfl, hg⟩
  · skip
    have k2 : v < a := fa_lt.mpr (by have : ¬ a.toInt ≤ v.toInt := fun q => c2 (fa_le.mpr q); omega)
    rw [if_pos k2]
    refine r_iload_n (pc := 5) dX12_held_5 rfl ?_
    refine r_goto (pc := 6) 19 dX12_held_6 (by decide) ?_
    refine r_ireturn (pc := 19) (ty := .int) dX12_held_19 rfl rfl ⟨Nat.zero_le _, Nat.zero_le _⟩ (fun gE hg => ?_)
    exact ⟨rfl, hg⟩
theorem ct_M_isDigit {c : Int32} (g : AH) : CT 2 0 0 mX12_isDigit [.int c] g (fun v g' => v = some (.int (b2i (digB c))) ∧ g' = g) := by
  refine ct_of (by decide) (fun _ _ => Nat.le_of_ble_eq_true rfl) ?_
  dsimp only [pad, ent]
  rw [show digB c = wiB c 48 57 from rfl]
  refine r_iload_n (pc := 0) dX12_isDigit_0 rfl ?_
  refine r_bipush (pc := 1) (v := 48) dX12_isDigit_1 (by decide) ?_
  refine r_bipush (pc := 3) (v := 57) dX12_isDigit_3 (by decide) ?_
  refine r_Sp (pc := 5) (μ' := mX12_in) dX12_isDigit_5 nX12_57 sX12_in kX12_in rfl rfl (rr (by decide) rfl) rfl ⟨Nat.zero_le _, Nat.zero_le _⟩ (fun h => ct_M_in h) ?_
  refine r_ireturn (pc := 8) (ty := .boolean) dX12_isDigit_8 rfl (nar_b _) ⟨Nat.zero_le _, Nat.zero_le _⟩ (fun gE hg => ?_)
  exact ⟨rfl, hg⟩
theorem shB_wi (a : Int32) : wiB a 0 3 = shB a := by
  unfold wiB shB
  rw [t0, show (3 : Int32).toInt = 3 from rfl]
  by_cases e : 0 ≤ a.toInt ∧ a.toInt < 4
  · rw [decide_eq_true e, decide_eq_true (by omega)]
  · rw [decide_eq_false e, decide_eq_false (by omega)]
theorem ct_M_isSheet {a : Int32} (g : AH) : CT 2 0 0 mX12_isSheet [.int a] g (fun v g' => v = some (.int (b2i (shB a))) ∧ g' = g) := by
  refine ct_of (by decide) (fun _ _ => Nat.le_of_ble_eq_true rfl) ?_
  dsimp only [pad, ent]
  refine r_iload_n (pc := 0) dX12_isSheet_0 rfl ?_
  refine r_iconst (pc := 1) (v := 0) dX12_isSheet_1 (by decide) ?_
  refine r_iconst (pc := 2) (v := 3) dX12_isSheet_2 (by decide) ?_
  refine r_Sp (pc := 3) (μ' := mX12_in) dX12_isSheet_3 nX12_57 sX12_in kX12_in rfl rfl (rr (by decide) rfl) rfl ⟨Nat.zero_le _, Nat.zero_le _⟩ (fun h => ct_M_in h) ?_
  rw [shB_wi]
  refine r_ireturn (pc := 6) (ty := .boolean) dX12_isSheet_6 rfl (nar_b _) ⟨Nat.zero_le _, Nat.zero_le _⟩ (fun gE hg => ?_)
  exact ⟨rfl, hg⟩
theorem ct_M_narrow {b v : Int32} (g : AH) : CT 1 0 0 mX12_narrow [.int b, .int v] g (fun w g' => w = some (.int (narI b v)) ∧ g' = g) := by
  refine ct_of (by decide) (fun _ _ => Nat.le_of_ble_eq_true rfl) ?_
  dsimp only [pad, ent]
  unfold narI
  refine r_iload_n (pc := 0) dX12_narrow_0 rfl ?_
  refine r_bipush (pc := 1) (v := 8) dX12_narrow_1 (by decide) ?_
  refine r_icmp_ne (pc := 3) 11 dX12_narrow_3 (by decide) (fun c3 => ?_) (fun c3 => ?_)
  · skip
    rw [if_neg c3]
    refine r_iload_n (pc := 11) dX12_narrow_11 rfl ?_
    refine r_bipush (pc := 12) (v := 16) dX12_narrow_12 (by decide) ?_
    refine r_icmp_ne (pc := 14) 22 dX12_narrow_14 (by decide) (fun c14 => ?_) (fun c14 => ?_)
    · skip
      rw [if_neg c14]
      refine r_iload_n (pc := 22) dX12_narrow_22 rfl ?_
      refine r_ireturn (pc := 23) (ty := .int) dX12_narrow_23 rfl rfl ⟨Nat.zero_le _, Nat.zero_le _⟩ (fun gE hg => ?_)
      exact ⟨rfl, hg⟩
    · skip
      rw [if_pos c14]
      refine r_iload_n (pc := 17) dX12_narrow_17 rfl ?_
      refine r_i2s (pc := 18) dX12_narrow_18 ?_
      refine r_goto (pc := 19) 23 dX12_narrow_19 (by decide) ?_
      refine r_ireturn (pc := 23) (ty := .int) dX12_narrow_23 rfl rfl ⟨Nat.zero_le _, Nat.zero_le _⟩ (fun gE hg => ?_)
      exact ⟨rfl, hg⟩
  · skip
    rw [if_pos c3]
    refine r_iload_n (pc := 6) dX12_narrow_6 rfl ?_
    refine r_i2b (pc := 7) dX12_narrow_7 ?_
    refine r_goto (pc := 8) 23 dX12_narrow_8 (by decide) ?_
    refine r_ireturn (pc := 23) (ty := .int) dX12_narrow_23 rfl rfl ⟨Nat.zero_le _, Nat.zero_le _⟩ (fun gE hg => ?_)
    exact ⟨rfl, hg⟩
theorem abI_is {k : Int32} (h0 : 0 ≤ k.toInt) (h7 : k.toInt < 7) : aboveI k = if k = 0 then -1 else if k = 4 then 1 else if k = 5 then 2 else if k = 6 then 3 else 0 := by
  obtain ⟨n, rfl, hn⟩ : ∃ n, k = nI n ∧ n < 7 := ⟨k.toInt.toNat, (nI_tn (by omega) (by omega)).symm, by omega⟩
  have : ∀ n, n < 7 → aboveI (nI n) = if nI n = 0 then -1 else if nI n = 4 then 1 else if nI n = 5 then 2 else if nI n = 6 then 3 else 0 := by decide +kernel
  exact this n hn
theorem ct_M_above {k : Nat} (hk : k < 7) (g : AH) : CT 1 0 0 mX12_above [.int (nI k)] g (fun v g' => v = some (.int (aboveI (nI k))) ∧ g' = g) := by
  refine ct_of (by decide) (fun _ _ => Nat.le_of_ble_eq_true rfl) ?_
  dsimp only [pad, ent]
  have hT := nI_T (n := k) (by omega)
  rw [abI_is (k := nI k) (by omega) (by omega)]
  refine r_iload_n (pc := 0) dX12_above_0 rfl ?_
  refine r_if_ne (pc := 1) 8 dX12_above_1 (by decide) (fun c1 => ?_) (fun c1 => ?_)
  · skip
    rw [if_neg c1]
    refine r_iload_n (pc := 8) dX12_above_8 rfl ?_
    refine r_iconst (pc := 9) (v := 4) dX12_above_9 (by decide) ?_
    refine r_icmp_ne (pc := 10) 17 dX12_above_10 (by decide) (fun c10 => ?_) (fun c10 => ?_)
    · skip
      rw [if_neg c10]
      refine r_iload_n (pc := 17) dX12_above_17 rfl ?_
      refine r_iconst (pc := 18) (v := 5) dX12_above_18 (by decide) ?_
      refine r_icmp_ne (pc := 19) 26 dX12_above_19 (by decide) (fun c19 => ?_) (fun c19 => ?_)
      · skip
        rw [if_neg c19]
        refine r_iload_n (pc := 26) dX12_above_26 rfl ?_
        refine r_bipush (pc := 27) (v := 6) dX12_above_27 (by decide) ?_
        refine r_icmp_ne (pc := 29) 36 dX12_above_29 (by decide) (fun c29 => ?_) (fun c29 => ?_)
        · skip
          rw [if_neg c29]
          refine r_iconst (pc := 36) (v := 0) dX12_above_36 (by decide) ?_
          refine r_ireturn (pc := 37) (ty := .int) dX12_above_37 rfl rfl ⟨Nat.zero_le _, Nat.zero_le _⟩ (fun gE hg => ?_)
          exact ⟨rfl, hg⟩
        · skip
          rw [if_pos c29]
          refine r_iconst (pc := 32) (v := 3) dX12_above_32 (by decide) ?_
          refine r_goto (pc := 33) 37 dX12_above_33 (by decide) ?_
          refine r_ireturn (pc := 37) (ty := .int) dX12_above_37 rfl rfl ⟨Nat.zero_le _, Nat.zero_le _⟩ (fun gE hg => ?_)
          exact ⟨rfl, hg⟩
      · skip
        rw [if_pos c19]
        refine r_iconst (pc := 22) (v := 2) dX12_above_22 (by decide) ?_
        refine r_goto (pc := 23) 37 dX12_above_23 (by decide) ?_
        refine r_ireturn (pc := 37) (ty := .int) dX12_above_37 rfl rfl ⟨Nat.zero_le _, Nat.zero_le _⟩ (fun gE hg => ?_)
        exact ⟨rfl, hg⟩
    · skip
      rw [if_pos c10]
      refine r_iconst (pc := 13) (v := 1) dX12_above_13 (by decide) ?_
      refine r_goto (pc := 14) 37 dX12_above_14 (by decide) ?_
      refine r_ireturn (pc := 37) (ty := .int) dX12_above_37 rfl rfl ⟨Nat.zero_le _, Nat.zero_le _⟩ (fun gE hg => ?_)
      exact ⟨rfl, hg⟩
  · skip
    rw [if_pos c1]
    refine r_iconst (pc := 4) (v := (-1)) dX12_above_4 (by decide) ?_
    refine r_goto (pc := 5) 37 dX12_above_5 (by decide) ?_
    refine r_ireturn (pc := 37) (ty := .int) dX12_above_37 rfl rfl ⟨Nat.zero_le _, Nat.zero_le _⟩ (fun gE hg => ?_)
    exact ⟨rfl, hg⟩
theorem pac_is : ∀ k, k < 6 → (1 : Int32) - nI k % 2 = if nI k % 2 = 0 then 1 else 0 := by decide +kernel
theorem ct_M_paceOf {kd m : Int32} {k : Nat} (hk : k < 6) (g : AH) : CT 1 0 0 mX12_paceOf [.int kd, .int m, .int (nI k)] g (fun v g' => v = some (.int (paceI kd m (nI k))) ∧ g' = g) := by
  refine ct_of (by decide) (fun _ _ => Nat.le_of_ble_eq_true rfl) ?_
  dsimp only [pad, ent]
  unfold paceI
  rw [← pac_is k hk]
  refine r_iload_n (pc := 0) dX12_paceOf_0 rfl ?_
  by_cases s1_0 : kd = 1
  · skip
    refine r_tableAt (pc := 1) 40 0 dX12_paceOf_1 (by rw [s1_0]; decide) (by decide) rfl (by decide) ?_
    simp only [s1_0, if_true]
    refine r_iconst (pc := 40) (v := 3) dX12_paceOf_40 (by decide) ?_
    refine r_ireturn (pc := 41) (ty := .int) dX12_paceOf_41 rfl rfl ⟨Nat.zero_le _, Nat.zero_le _⟩ (fun gE hg => ?_)
    exact ⟨rfl, hg⟩
  by_cases s1_1 : kd = 2
  · skip
    refine r_tableAt (pc := 1) 42 1 dX12_paceOf_1 (by rw [s1_1]; decide) (by decide) rfl (by decide) ?_
    simp only [s1_1, if_true, show ¬ (2 : Int32) = 1 by decide, if_false]
    refine r_iconst (pc := 42) (v := 1) dX12_paceOf_42 (by decide) ?_
    refine r_ireturn (pc := 43) (ty := .int) dX12_paceOf_43 rfl rfl ⟨Nat.zero_le _, Nat.zero_le _⟩ (fun gE hg => ?_)
    exact ⟨rfl, hg⟩
  by_cases s1_2 : kd = 3
  · skip
    refine r_tableAt (pc := 1) 44 2 dX12_paceOf_1 (by rw [s1_2]; decide) (by decide) rfl (by decide) ?_
    simp only [s1_2, if_true, show ¬ (3 : Int32) = 1 by decide, show ¬ (3 : Int32) = 2 by decide, if_false]
    refine r_iconst (pc := 44) (v := 1) dX12_paceOf_44 (by decide) ?_
    refine r_iload_n (pc := 45) dX12_paceOf_45 rfl ?_
    refine r_iconst (pc := 46) (v := 2) dX12_paceOf_46 (by decide) ?_
    refine r_irem' (pc := 47) dX12_paceOf_47 (by decide) ?_
    refine r_isub (pc := 48) dX12_paceOf_48 ?_
    refine r_ireturn (pc := 49) (ty := .int) dX12_paceOf_49 rfl rfl ⟨Nat.zero_le _, Nat.zero_le _⟩ (fun gE hg => ?_)
    exact ⟨rfl, hg⟩
  by_cases s1_3 : kd = 4
  · skip
    refine r_tableAt (pc := 1) 50 3 dX12_paceOf_1 (by rw [s1_3]; decide) (by decide) rfl (by decide) ?_
    simp only [s1_3, if_true, show ¬ (4 : Int32) = 1 by decide, show ¬ (4 : Int32) = 2 by decide, show ¬ (4 : Int32) = 3 by decide, if_false]
    refine r_iconst (pc := 50) (v := 3) dX12_paceOf_50 (by decide) ?_
    refine r_iload_n (pc := 51) dX12_paceOf_51 rfl ?_
    refine r_iconst (pc := 52) (v := 4) dX12_paceOf_52 (by decide) ?_
    refine r_idiv (pc := 53) dX12_paceOf_53 (by decide) ?_
    refine r_iadd (pc := 54) dX12_paceOf_54 ?_
    refine r_ireturn (pc := 55) (ty := .int) dX12_paceOf_55 rfl rfl ⟨Nat.zero_le _, Nat.zero_le _⟩ (fun gE hg => ?_)
    exact ⟨rfl, hg⟩
  by_cases s1_4 : kd = 5
  · skip
    refine r_tableAt (pc := 1) 56 4 dX12_paceOf_1 (by rw [s1_4]; decide) (by decide) rfl (by decide) ?_
    simp only [s1_4, if_true, show ¬ (5 : Int32) = 1 by decide, show ¬ (5 : Int32) = 2 by decide, show ¬ (5 : Int32) = 3 by decide, show ¬ (5 : Int32) = 4 by decide, if_false]
    refine r_iconst (pc := 56) (v := 1) dX12_paceOf_56 (by decide) ?_
    refine r_iload_n (pc := 57) dX12_paceOf_57 rfl ?_
    refine r_iconst (pc := 58) (v := 3) dX12_paceOf_58 (by decide) ?_
    refine r_idiv (pc := 59) dX12_paceOf_59 (by decide) ?_
    refine r_iadd (pc := 60) dX12_paceOf_60 ?_
    refine r_ireturn (pc := 61) (ty := .int) dX12_paceOf_61 rfl rfl ⟨Nat.zero_le _, Nat.zero_le _⟩ (fun gE hg => ?_)
    exact ⟨rfl, hg⟩
  by_cases s1_5 : kd = 6
  · skip
    refine r_tableAt (pc := 1) 44 5 dX12_paceOf_1 (by rw [s1_5]; decide) (by decide) rfl (by decide) ?_
    simp only [s1_5, if_true, show ¬ (6 : Int32) = 1 by decide, show ¬ (6 : Int32) = 2 by decide, show ¬ (6 : Int32) = 3 by decide, show ¬ (6 : Int32) = 4 by decide, show ¬ (6 : Int32) = 5 by decide, if_false]
    refine r_iconst (pc := 44) (v := 1) dX12_paceOf_44 (by decide) ?_
    refine r_iload_n (pc := 45) dX12_paceOf_45 rfl ?_
    refine r_iconst (pc := 46) (v := 2) dX12_paceOf_46 (by decide) ?_
    refine r_irem' (pc := 47) dX12_paceOf_47 (by decide) ?_
    refine r_isub (pc := 48) dX12_paceOf_48 ?_
    refine r_ireturn (pc := 49) (ty := .int) dX12_paceOf_49 rfl rfl ⟨Nat.zero_le _, Nat.zero_le _⟩ (fun gE hg => ?_)
    exact ⟨rfl, hg⟩
  have t1_0 : ¬ (kd).toInt = 1 := fun q => s1_0 (Int32.toInt_inj.mp q)
  have t1_1 : ¬ (kd).toInt = 2 := fun q => s1_1 (Int32.toInt_inj.mp q)
  have t1_2 : ¬ (kd).toInt = 3 := fun q => s1_2 (Int32.toInt_inj.mp q)
  have t1_3 : ¬ (kd).toInt = 4 := fun q => s1_3 (Int32.toInt_inj.mp q)
  have t1_4 : ¬ (kd).toInt = 5 := fun q => s1_4 (Int32.toInt_inj.mp q)
  have t1_5 : ¬ (kd).toInt = 6 := fun q => s1_5 (Int32.toInt_inj.mp q)
  refine r_tableOut (pc := 1) 62 dX12_paceOf_1 (by omega) (by decide) ?_
  simp only [s1_0, s1_1, s1_2, s1_3, s1_4, s1_5, if_false]
  refine r_iconst (pc := 62) (v := 2) dX12_paceOf_62 (by decide) ?_
  refine r_ireturn (pc := 63) (ty := .int) dX12_paceOf_63 rfl rfl ⟨Nat.zero_le _, Nat.zero_le _⟩ (fun gE hg => ?_)
  exact ⟨rfl, hg⟩
theorem loa_is : ∀ m, m < 10 → (2 : Int32) + nI m % 3 = 3 + nI m % 3 - 1 := by decide +kernel
theorem ct_M_loadOf {kd : Int32} {m : Nat} (hm : m < 10) (g : AH) : CT 1 0 0 mX12_loadOf [.int kd, .int (nI m)] g (fun v g' => v = some (.int (loadI kd (nI m))) ∧ g' = g) := by
  refine ct_of (by decide) (fun _ _ => Nat.le_of_ble_eq_true rfl) ?_
  dsimp only [pad, ent]
  have hl := loa_is m hm
  refine r_iload_n (pc := 0) dX12_loadOf_0 rfl ?_
  refine r_iconst (pc := 1) (v := 2) dX12_loadOf_1 (by decide) ?_
  refine r_icmp_ne (pc := 2) 13 dX12_loadOf_2 (by decide) (fun c2 => ?_) (fun c2 => ?_)
  · skip
    refine r_iload_n (pc := 13) dX12_loadOf_13 rfl ?_
    refine r_iconst (pc := 14) (v := 5) dX12_loadOf_14 (by decide) ?_
    refine r_icmp_ne (pc := 15) 26 dX12_loadOf_15 (by decide) (fun c15 => ?_) (fun c15 => ?_)
    · skip
      refine r_iload_n (pc := 26) dX12_loadOf_26 rfl ?_
      refine r_iconst (pc := 27) (v := 3) dX12_loadOf_27 (by decide) ?_
      refine r_icmp_ne (pc := 28) 36 dX12_loadOf_28 (by decide) (fun c28 => ?_) (fun c28 => ?_)
      · skip
        refine r_iload_n (pc := 36) dX12_loadOf_36 rfl ?_
        refine r_bipush (pc := 37) (v := 6) dX12_loadOf_37 (by decide) ?_
        refine r_icmp_ne (pc := 39) 46 dX12_loadOf_39 (by decide) (fun c39 => ?_) (fun c39 => ?_)
        · skip
          rw [show loadI kd (nI m) = 2 by unfold loadI; simp only [c2, c15, c28, c39, if_false]; split <;> rfl]
          refine r_iconst (pc := 46) (v := 2) dX12_loadOf_46 (by decide) ?_
          refine r_ireturn (pc := 47) (ty := .int) dX12_loadOf_47 rfl rfl ⟨Nat.zero_le _, Nat.zero_le _⟩ (fun gE hg => ?_)
          exact ⟨rfl, hg⟩
        · skip
          subst c39
          refine r_iconst (pc := 42) (v := 4) dX12_loadOf_42 (by decide) ?_
          refine r_goto (pc := 43) 47 dX12_loadOf_43 (by decide) ?_
          refine r_ireturn (pc := 47) (ty := .int) dX12_loadOf_47 rfl rfl ⟨Nat.zero_le _, Nat.zero_le _⟩ (fun gE hg => ?_)
          exact ⟨rfl, hg⟩
      · skip
        subst c28
        refine r_bipush (pc := 31) (v := 9) dX12_loadOf_31 (by decide) ?_
        refine r_goto (pc := 33) 47 dX12_loadOf_33 (by decide) ?_
        refine r_ireturn (pc := 47) (ty := .int) dX12_loadOf_47 rfl rfl ⟨Nat.zero_le _, Nat.zero_le _⟩ (fun gE hg => ?_)
        exact ⟨rfl, hg⟩
    · skip
      subst c15
      rw [show loadI 5 (nI m) = 3 + nI m % 3 - 1 from rfl, ← hl]
      refine r_iconst (pc := 18) (v := 2) dX12_loadOf_18 (by decide) ?_
      refine r_iload_n (pc := 19) dX12_loadOf_19 rfl ?_
      refine r_iconst (pc := 20) (v := 3) dX12_loadOf_20 (by decide) ?_
      refine r_irem' (pc := 21) dX12_loadOf_21 (by decide) ?_
      refine r_iadd (pc := 22) dX12_loadOf_22 ?_
      refine r_goto (pc := 23) 47 dX12_loadOf_23 (by decide) ?_
      refine r_ireturn (pc := 47) (ty := .int) dX12_loadOf_47 rfl rfl ⟨Nat.zero_le _, Nat.zero_le _⟩ (fun gE hg => ?_)
      exact ⟨rfl, hg⟩
  · skip
    subst c2
    refine r_iconst (pc := 5) (v := 3) dX12_loadOf_5 (by decide) ?_
    refine r_iload_n (pc := 6) dX12_loadOf_6 rfl ?_
    refine r_iconst (pc := 7) (v := 3) dX12_loadOf_7 (by decide) ?_
    refine r_irem' (pc := 8) dX12_loadOf_8 (by decide) ?_
    refine r_iadd (pc := 9) dX12_loadOf_9 ?_
    refine r_goto (pc := 10) 47 dX12_loadOf_10 (by decide) ?_
    refine r_ireturn (pc := 47) (ty := .int) dX12_loadOf_47 rfl rfl ⟨Nat.zero_le _, Nat.zero_le _⟩ (fun gE hg => ?_)
    exact ⟨rfl, hg⟩
theorem ct_M_usesOf {kd m : Int32} (g : AH) : CT 1 0 0 mX12_usesOf [.int kd, .int m] g (fun v g' => v = some (.int (usesI kd m)) ∧ g' = g) := by
  refine ct_of (by decide) (fun _ _ => Nat.le_of_ble_eq_true rfl) ?_
  dsimp only [pad, ent]
  unfold usesI
  refine r_iload_n (pc := 0) dX12_usesOf_0 rfl ?_
  refine r_iconst (pc := 1) (v := 3) dX12_usesOf_1 (by decide) ?_
  refine r_icmp_ne (pc := 2) 9 dX12_usesOf_2 (by decide) (fun c2 => ?_) (fun c2 => ?_)
  · skip
    rw [if_neg c2]
    refine r_iload_n (pc := 9) dX12_usesOf_9 rfl ?_
    refine r_bipush (pc := 10) (v := 6) dX12_usesOf_10 (by decide) ?_
    refine r_icmp_ne (pc := 12) 23 dX12_usesOf_12 (by decide) (fun c12 => ?_) (fun c12 => ?_)
    · skip
      rw [if_neg c12]
      refine r_iconst (pc := 23) (v := 1) dX12_usesOf_23 (by decide) ?_
      refine r_ireturn (pc := 24) (ty := .int) dX12_usesOf_24 rfl rfl ⟨Nat.zero_le _, Nat.zero_le _⟩ (fun gE hg => ?_)
      exact ⟨rfl, hg⟩
    · skip
      rw [if_pos c12]
      refine r_iconst (pc := 15) (v := 2) dX12_usesOf_15 (by decide) ?_
      refine r_iload_n (pc := 16) dX12_usesOf_16 rfl ?_
      refine r_iconst (pc := 17) (v := 2) dX12_usesOf_17 (by decide) ?_
      refine r_irem' (pc := 18) dX12_usesOf_18 (by decide) ?_
      refine r_iadd (pc := 19) dX12_usesOf_19 ?_
      refine r_goto (pc := 20) 24 dX12_usesOf_20 (by decide) ?_
      refine r_ireturn (pc := 24) (ty := .int) dX12_usesOf_24 rfl rfl ⟨Nat.zero_le _, Nat.zero_le _⟩ (fun gE hg => ?_)
      exact ⟨rfl, hg⟩
  · skip
    rw [if_pos c2]
    refine r_iconst (pc := 5) (v := 2) dX12_usesOf_5 (by decide) ?_
    refine r_goto (pc := 6) 24 dX12_usesOf_6 (by decide) ?_
    refine r_ireturn (pc := 24) (ty := .int) dX12_usesOf_24 rfl rfl ⟨Nat.zero_le _, Nat.zero_le _⟩ (fun gE hg => ?_)
    exact ⟨rfl, hg⟩
section Sm
variable {m : Nat} {h : AH} {s : Nat → Int32} {A : Nat → Nat → Int32}
set_option maxHeartbeats 4000000 in
theorem ct_M_errs (hm : m + 14 < h.1) {e : Int32} (k : Nat) (hk : k < 6) (hx : (-1000000000 - e : Int32).toInt = k) : CV 1 0 0 mX12_errs m [.int e] (mh m h s A) (fun v g => v = some (.int e) ∧ MP m h s (upA A 4 (upd (A 4) k (A 4 k + 1))) g) := by
  refine ⟨mV hm, ?_⟩
  refine ct_of (by decide) (fun _ _ => Nat.le_of_ble_eq_true rfl) ?_
  dsimp only [pad, ent]
  refine aw_P (P' := MP m h s A) (fun _ q => q) ?_
  refine r_aload_n (pc := 0) dX12_errs_0 rfl ?_
  refine r_getf (pc := 1) (k := 6) dX12_errs_1 hX12 eX12 (by decide) fX12_22 (fun _ q => mo hm q) rfl ?_
  refine r_ldc (pc := 4) (v := (-1000000000)) dX12_errs_4 qX12_56 ?_
  refine r_iload_n (pc := 6) dX12_errs_6 rfl ?_
  refine r_isub (pc := 7) dX12_errs_7 ?_
  refine r_dup2 (pc := 8) dX12_errs_8 rfl rfl ?_
  refine r_ml (pc := 9) (i := 4) (j := k) hm dX12_errs_9 (by decide) hx hk ?_
  refine r_iconst (pc := 10) (v := 1) dX12_errs_10 (by decide) ?_
  refine r_iadd (pc := 11) dX12_errs_11 ?_
  refine r_ms (pc := 12) (i := 4) (j := k) hm dX12_errs_12 (by decide) hx hk ?_
  refine r_iload_n (pc := 13) dX12_errs_13 rfl ?_
  refine r_ireturn (pc := 14) (ty := .int) dX12_errs_14 rfl rfl ⟨Nat.zero_le _, Nat.zero_le _⟩ (fun gE hg => ?_)
  exact ⟨rfl, hg⟩
theorem ct_M_cells (hm : m + 14 < h.1) : CV 1 0 0 mX12_cells m [] (mh m h s A) (fun v g => v = some (.int (A 0 0 * A 0 1)) ∧ MP m h s A g) := by
  refine ⟨mV hm, ?_⟩
  refine ct_of (by decide) (fun _ _ => Nat.le_of_ble_eq_true rfl) ?_
  dsimp only [pad, ent]
  refine aw_P (P' := MP m h s A) (fun _ q => q) ?_
  refine r_aload_n (pc := 0) dX12_cells_0 rfl ?_
  refine r_getf (pc := 1) (k := 0) dX12_cells_1 hX12 eX12 (by decide) fX12_7 (fun _ q => mo hm q) rfl ?_
  refine r_iconst (pc := 4) (v := 0) dX12_cells_4 (by decide) ?_
  refine r_ml (pc := 5) (i := 0) (j := 0) hm dX12_cells_5 (by decide) rfl (by decide) ?_
  refine r_aload_n (pc := 6) dX12_cells_6 rfl ?_
  refine r_getf (pc := 7) (k := 0) dX12_cells_7 hX12 eX12 (by decide) fX12_7 (fun _ q => mo hm q) rfl ?_
  refine r_iconst (pc := 10) (v := 1) dX12_cells_10 (by decide) ?_
  refine r_ml (pc := 11) (i := 0) (j := 1) hm dX12_cells_11 (by decide) rfl (by decide) ?_
  refine r_imul (pc := 12) dX12_cells_12 ?_
  refine r_ireturn (pc := 13) (ty := .int) dX12_cells_13 rfl rfl ⟨Nat.zero_le _, Nat.zero_le _⟩ (fun gE hg => ?_)
  exact ⟨rfl, hg⟩
theorem ct_M_whenOf (hm : m + 14 < h.1) {c : Nat} (hc : c < 36) : CV 1 0 0 mX12_whenOf m [.int (nI c)] (mh m h s A) (fun v g => v = some (.int (A 0 (25 + 2 * c))) ∧ MP m h s A g) := by
  refine ⟨mV hm, ?_⟩
  refine ct_of (by decide) (fun _ _ => Nat.le_of_ble_eq_true rfl) ?_
  dsimp only [pad, ent]
  refine aw_P (P' := MP m h s A) (fun _ q => q) ?_
  have e : (25 : Int32) + 2 * nI c = nI (25 + 2 * c) := ix2 25 2 c
  refine r_aload_n (pc := 0) dX12_whenOf_0 rfl ?_
  refine r_getf (pc := 1) (k := 0) dX12_whenOf_1 hX12 eX12 (by decide) fX12_7 (fun _ q => mo hm q) rfl ?_
  refine r_bipush (pc := 4) (v := 25) dX12_whenOf_4 (by decide) ?_
  refine r_iconst (pc := 6) (v := 2) dX12_whenOf_6 (by decide) ?_
  refine r_iload_n (pc := 7) dX12_whenOf_7 rfl ?_
  refine r_imul (pc := 8) dX12_whenOf_8 ?_
  refine r_iadd (pc := 9) dX12_whenOf_9 ?_
  rw [e]
  refine r_ml (pc := 10) (i := 0) (j := (25 + 2 * c)) hm dX12_whenOf_10 (by decide) (nI_T (by omega)) (show (25 + 2 * c) < 267 by omega) ?_
  refine r_ireturn (pc := 11) (ty := .int) dX12_whenOf_11 rfl rfl ⟨Nat.zero_le _, Nat.zero_le _⟩ (fun gE hg => ?_)
  exact ⟨rfl, hg⟩
theorem ct_M_whiteOf (hm : m + 14 < h.1) {c : Nat} (hc : c < 36) : CV 1 0 0 mX12_whiteOf m [.int (nI c)] (mh m h s A) (fun v g => v = some (.int (A 0 (26 + 2 * c))) ∧ MP m h s A g) := by
  refine ⟨mV hm, ?_⟩
  refine ct_of (by decide) (fun _ _ => Nat.le_of_ble_eq_true rfl) ?_
  dsimp only [pad, ent]
  refine aw_P (P' := MP m h s A) (fun _ q => q) ?_
  have e : (25 : Int32) + 2 * nI c + 1 = nI (26 + 2 * c) := by rw [show (25 : Int32) + 2 * nI c = nI (25 + 2 * c) from ix2 25 2 c, nI_1]; congr 1; omega
  refine r_aload_n (pc := 0) dX12_whiteOf_0 rfl ?_
  refine r_getf (pc := 1) (k := 0) dX12_whiteOf_1 hX12 eX12 (by decide) fX12_7 (fun _ q => mo hm q) rfl ?_
  refine r_bipush (pc := 4) (v := 25) dX12_whiteOf_4 (by decide) ?_
  refine r_iconst (pc := 6) (v := 2) dX12_whiteOf_6 (by decide) ?_
  refine r_iload_n (pc := 7) dX12_whiteOf_7 rfl ?_
  refine r_imul (pc := 8) dX12_whiteOf_8 ?_
  refine r_iadd (pc := 9) dX12_whiteOf_9 ?_
  refine r_iconst (pc := 10) (v := 1) dX12_whiteOf_10 (by decide) ?_
  refine r_iadd (pc := 11) dX12_whiteOf_11 ?_
  rw [e]
  refine r_ml (pc := 12) (i := 0) (j := (26 + 2 * c)) hm dX12_whiteOf_12 (by decide) (nI_T (by omega)) (show (26 + 2 * c) < 267 by omega) ?_
  refine r_ireturn (pc := 13) (ty := .int) dX12_whiteOf_13 rfl rfl ⟨Nat.zero_le _, Nat.zero_le _⟩ (fun gE hg => ?_)
  exact ⟨rfl, hg⟩
theorem ct_M_kindOf (hm : m + 14 < h.1) {i : Nat} (hi : i < 6) : CV 1 0 0 mX12_kindOf m [.int (nI i)] (mh m h s A) (fun v g => v = some (.int (A 0 (13 + 2 * i))) ∧ MP m h s A g) := by
  refine ⟨mV hm, ?_⟩
  refine ct_of (by decide) (fun _ _ => Nat.le_of_ble_eq_true rfl) ?_
  dsimp only [pad, ent]
  refine aw_P (P' := MP m h s A) (fun _ q => q) ?_
  have e : (13 : Int32) + 2 * nI i = nI (13 + 2 * i) := ix2 13 2 i
  refine r_aload_n (pc := 0) dX12_kindOf_0 rfl ?_
  refine r_getf (pc := 1) (k := 0) dX12_kindOf_1 hX12 eX12 (by decide) fX12_7 (fun _ q => mo hm q) rfl ?_
  refine r_bipush (pc := 4) (v := 13) dX12_kindOf_4 (by decide) ?_
  refine r_iconst (pc := 6) (v := 2) dX12_kindOf_6 (by decide) ?_
  refine r_iload_n (pc := 7) dX12_kindOf_7 rfl ?_
  refine r_imul (pc := 8) dX12_kindOf_8 ?_
  refine r_iadd (pc := 9) dX12_kindOf_9 ?_
  rw [e]
  refine r_ml (pc := 10) (i := 0) (j := (13 + 2 * i)) hm dX12_kindOf_10 (by decide) (nI_T (by omega)) (show (13 + 2 * i) < 267 by omega) ?_
  refine r_ireturn (pc := 11) (ty := .int) dX12_kindOf_11 rfl rfl ⟨Nat.zero_le _, Nat.zero_le _⟩ (fun gE hg => ?_)
  exact ⟨rfl, hg⟩
theorem ct_M_mOf (hm : m + 14 < h.1) {i : Nat} (hi : i < 6) : CV 1 0 0 mX12_mOf m [.int (nI i)] (mh m h s A) (fun v g => v = some (.int (A 0 (14 + 2 * i))) ∧ MP m h s A g) := by
  refine ⟨mV hm, ?_⟩
  refine ct_of (by decide) (fun _ _ => Nat.le_of_ble_eq_true rfl) ?_
  dsimp only [pad, ent]
  refine aw_P (P' := MP m h s A) (fun _ q => q) ?_
  have e : (13 : Int32) + 2 * nI i + 1 = nI (14 + 2 * i) := by rw [show (13 : Int32) + 2 * nI i = nI (13 + 2 * i) from ix2 13 2 i, nI_1]; congr 1; omega
  refine r_aload_n (pc := 0) dX12_mOf_0 rfl ?_
  refine r_getf (pc := 1) (k := 0) dX12_mOf_1 hX12 eX12 (by decide) fX12_7 (fun _ q => mo hm q) rfl ?_
  refine r_bipush (pc := 4) (v := 13) dX12_mOf_4 (by decide) ?_
  refine r_iconst (pc := 6) (v := 2) dX12_mOf_6 (by decide) ?_
  refine r_iload_n (pc := 7) dX12_mOf_7 rfl ?_
  refine r_imul (pc := 8) dX12_mOf_8 ?_
  refine r_iadd (pc := 9) dX12_mOf_9 ?_
  refine r_iconst (pc := 10) (v := 1) dX12_mOf_10 (by decide) ?_
  refine r_iadd (pc := 11) dX12_mOf_11 ?_
  rw [e]
  refine r_ml (pc := 12) (i := 0) (j := (14 + 2 * i)) hm dX12_mOf_12 (by decide) (nI_T (by omega)) (show (14 + 2 * i) < 267 by omega) ?_
  refine r_ireturn (pc := 13) (ty := .int) dX12_mOf_13 rfl rfl ⟨Nat.zero_le _, Nat.zero_le _⟩ (fun gE hg => ?_)
  exact ⟨rfl, hg⟩
theorem ct_M_isCell (hm : m + 14 < h.1) {a : Int32} : CV 2 0 0 mX12_isCell m [.int a] (mh m h s A) (fun v g => v = some (.int (b2i (wiB a 0 (A 0 0 * A 0 1 - 1)))) ∧ MP m h s A g) := by
  refine ⟨mV hm, ?_⟩
  refine ct_of (by decide) (fun _ _ => Nat.le_of_ble_eq_true rfl) ?_
  dsimp only [pad, ent]
  refine aw_P (P' := MP m h s A) (fun _ q => q) ?_
  refine r_iload_n (pc := 0) dX12_isCell_0 rfl ?_
  refine r_iconst (pc := 1) (v := 0) dX12_isCell_1 (by decide) ?_
  refine r_aload_n (pc := 2) dX12_isCell_2 rfl ?_
  refine r_Vi (pc := 3) (μ' := mX12_cells) dX12_isCell_3 nX12_66 iX12_cells vX12_cells kX12_cells rfl rfl (rr (by decide) rfl) rfl ⟨Nat.zero_le _, Nat.zero_le _⟩ (fun _ q_ => cvq q_ (ct_M_cells hm)) ?_
  refine r_iconst (pc := 6) (v := 1) dX12_isCell_6 (by decide) ?_
  refine r_isub (pc := 7) dX12_isCell_7 ?_
  refine r_Sp (pc := 8) (μ' := mX12_in) dX12_isCell_8 nX12_57 sX12_in kX12_in rfl rfl (rr (by decide) rfl) rfl ⟨Nat.zero_le _, Nat.zero_le _⟩ (fun h => ct_M_in h) ?_
  refine r_ireturn (pc := 11) (ty := .boolean) dX12_isCell_11 rfl (nar_b _) ⟨Nat.zero_le _, Nat.zero_le _⟩ (fun gE hg => ?_)
  exact ⟨rfl, hg⟩
theorem ct_M_isStrip (hm : m + 14 < h.1) {a : Int32} : CV 2 0 0 mX12_isStrip m [.int a] (mh m h s A) (fun v g => v = some (.int (b2i (wiB a 0 (A 0 1 - 1)))) ∧ MP m h s A g) := by
  refine ⟨mV hm, ?_⟩
  refine ct_of (by decide) (fun _ _ => Nat.le_of_ble_eq_true rfl) ?_
  dsimp only [pad, ent]
  refine aw_P (P' := MP m h s A) (fun _ q => q) ?_
  refine r_iload_n (pc := 0) dX12_isStrip_0 rfl ?_
  refine r_iconst (pc := 1) (v := 0) dX12_isStrip_1 (by decide) ?_
  refine r_aload_n (pc := 2) dX12_isStrip_2 rfl ?_
  refine r_getf (pc := 3) (k := 0) dX12_isStrip_3 hX12 eX12 (by decide) fX12_7 (fun _ q => mo hm q) rfl ?_
  refine r_iconst (pc := 6) (v := 1) dX12_isStrip_6 (by decide) ?_
  refine r_ml (pc := 7) (i := 0) (j := 1) hm dX12_isStrip_7 (by decide) rfl (by decide) ?_
  refine r_iconst (pc := 8) (v := 1) dX12_isStrip_8 (by decide) ?_
  refine r_isub (pc := 9) dX12_isStrip_9 ?_
  refine r_Sp (pc := 10) (μ' := mX12_in) dX12_isStrip_10 nX12_57 sX12_in kX12_in rfl rfl (rr (by decide) rfl) rfl ⟨Nat.zero_le _, Nat.zero_le _⟩ (fun h => ct_M_in h) ?_
  refine r_ireturn (pc := 13) (ty := .boolean) dX12_isStrip_13 rfl (nar_b _) ⟨Nat.zero_le _, Nat.zero_le _⟩ (fun gE hg => ?_)
  exact ⟨rfl, hg⟩
theorem ct_M_isLater (hm : m + 14 < h.1) {a : Int32} : CV 2 0 0 mX12_isLater m [.int a] (mh m h s A) (fun v g => v = some (.int (b2i (wiB a 1 (A 0 1 - 1)))) ∧ MP m h s A g) := by
  refine ⟨mV hm, ?_⟩
  refine ct_of (by decide) (fun _ _ => Nat.le_of_ble_eq_true rfl) ?_
  dsimp only [pad, ent]
  refine aw_P (P' := MP m h s A) (fun _ q => q) ?_
  refine r_iload_n (pc := 0) dX12_isLater_0 rfl ?_
  refine r_iconst (pc := 1) (v := 1) dX12_isLater_1 (by decide) ?_
  refine r_aload_n (pc := 2) dX12_isLater_2 rfl ?_
  refine r_getf (pc := 3) (k := 0) dX12_isLater_3 hX12 eX12 (by decide) fX12_7 (fun _ q => mo hm q) rfl ?_
  refine r_iconst (pc := 6) (v := 1) dX12_isLater_6 (by decide) ?_
  refine r_ml (pc := 7) (i := 0) (j := 1) hm dX12_isLater_7 (by decide) rfl (by decide) ?_
  refine r_iconst (pc := 8) (v := 1) dX12_isLater_8 (by decide) ?_
  refine r_isub (pc := 9) dX12_isLater_9 ?_
  refine r_Sp (pc := 10) (μ' := mX12_in) dX12_isLater_10 nX12_57 sX12_in kX12_in rfl rfl (rr (by decide) rfl) rfl ⟨Nat.zero_le _, Nat.zero_le _⟩ (fun h => ct_M_in h) ?_
  refine r_ireturn (pc := 13) (ty := .boolean) dX12_isLater_13 rfl (nar_b _) ⟨Nat.zero_le _, Nat.zero_le _⟩ (fun gE hg => ?_)
  exact ⟨rfl, hg⟩
theorem ct_M_isHand (hm : m + 14 < h.1) {a : Int32} : CV 2 0 0 mX12_isHand m [.int a] (mh m h s A) (fun v g => v = some (.int (b2i (wiB a 0 (A 0 8 - 1)))) ∧ MP m h s A g) := by
  refine ⟨mV hm, ?_⟩
  refine ct_of (by decide) (fun _ _ => Nat.le_of_ble_eq_true rfl) ?_
  dsimp only [pad, ent]
  refine aw_P (P' := MP m h s A) (fun _ q => q) ?_
  refine r_iload_n (pc := 0) dX12_isHand_0 rfl ?_
  refine r_iconst (pc := 1) (v := 0) dX12_isHand_1 (by decide) ?_
  refine r_aload_n (pc := 2) dX12_isHand_2 rfl ?_
  refine r_getf (pc := 3) (k := 0) dX12_isHand_3 hX12 eX12 (by decide) fX12_7 (fun _ q => mo hm q) rfl ?_
  refine r_bipush (pc := 6) (v := 8) dX12_isHand_6 (by decide) ?_
  refine r_ml (pc := 8) (i := 0) (j := 8) hm dX12_isHand_8 (by decide) rfl (by decide) ?_
  refine r_iconst (pc := 9) (v := 1) dX12_isHand_9 (by decide) ?_
  refine r_isub (pc := 10) dX12_isHand_10 ?_
  refine r_Sp (pc := 11) (μ' := mX12_in) dX12_isHand_11 nX12_57 sX12_in kX12_in rfl rfl (rr (by decide) rfl) rfl ⟨Nat.zero_le _, Nat.zero_le _⟩ (fun h => ct_M_in h) ?_
  refine r_ireturn (pc := 14) (ty := .boolean) dX12_isHand_14 rfl (nar_b _) ⟨Nat.zero_le _, Nat.zero_le _⟩ (fun gE hg => ?_)
  exact ⟨rfl, hg⟩
theorem ct_M_fails (hm : m + 14 < h.1) : CV 1 0 0 mX12_fails m [] (mh m h s A) (fun v g => v = some (.int 0) ∧ MP m h (upd s 17 0) A g) := by
  refine ⟨mV hm, ?_⟩
  refine ct_of (by decide) (fun _ _ => Nat.le_of_ble_eq_true rfl) ?_
  dsimp only [pad, ent]
  refine aw_P (P' := MP m h s A) (fun _ q => q) ?_
  refine r_aload_n (pc := 0) dX12_fails_0 rfl ?_
  refine r_iconst (pc := 1) (v := 0) dX12_fails_1 (by decide) ?_
  refine r_mp (pc := 2) (k := 17) hm dX12_fails_2 fX12_129 (by decide) rfl rfl (fun _ _ => rfl) (fun _ _ => rfl) rfl ?_
  refine r_iconst (pc := 5) (v := 0) dX12_fails_5 (by decide) ?_
  refine r_ireturn (pc := 6) (ty := .int) dX12_fails_6 rfl rfl ⟨Nat.zero_le _, Nat.zero_le _⟩ (fun gE hg => ?_)
  exact ⟨rfl, hg⟩
theorem ct_M_byteAt (hm : m + 14 < h.1) {u n j : Nat} (hu : s 10 = nI u) (hu2 : u < 2) (hn : s 12 = nI n) (hn2 : n ≤ 50) (hj : j ≤ 50) : CV 1 0 0 mX12_byteAt m [.int (nI j)] (mh m h s A) (fun v g => v = some (.int (if j < n then A 0 (167 + 50 * u + j) else -1)) ∧ MP m h s A g) := by
  refine ⟨mV hm, ?_⟩
  refine ct_of (by decide) (fun _ _ => Nat.le_of_ble_eq_true rfl) ?_
  dsimp only [pad, ent]
  refine aw_P (P' := MP m h s A) (fun _ q => q) ?_
  have hTn := nI_T (n := n) (by omega)
  have hTj := nI_T (n := j) (by omega)
  have e : (167 : Int32) + 50 * nI u + nI j = nI (167 + 50 * u + j) := by rw [show (167 : Int32) + 50 * nI u = nI (167 + 50 * u) from ix2 167 50 u, nI_add]
  refine r_iload_n (pc := 0) dX12_byteAt_0 rfl ?_
  refine r_aload_n (pc := 1) dX12_byteAt_1 rfl ?_
  refine r_getf (pc := 2) (k := 12) dX12_byteAt_2 hX12 eX12 (by decide) fX12_122 (fun _ q => mo hm q) rfl ?_
  rw [hn]
  refine r_icmp_ge (pc := 5) 29 dX12_byteAt_5 (by decide) (fun c5 => ?_) (fun c5 => ?_)
  · skip
    rw [if_neg (fun x => by have := fa_le.mp c5; omega)]
    refine r_iconst (pc := 29) (v := (-1)) dX12_byteAt_29 (by decide) ?_
    refine r_ireturn (pc := 30) (ty := .int) dX12_byteAt_30 rfl rfl ⟨Nat.zero_le _, Nat.zero_le _⟩ (fun gE hg => ?_)
    exact ⟨rfl, hg⟩
  · skip
    have kj : j < n := Decidable.byContradiction fun x => c5 (fa_le.mpr (by omega))
    rw [if_pos kj]
    refine r_aload_n (pc := 8) dX12_byteAt_8 rfl ?_
    refine r_getf (pc := 9) (k := 0) dX12_byteAt_9 hX12 eX12 (by decide) fX12_7 (fun _ q => mo hm q) rfl ?_
    refine r_sipush (pc := 12) (v := 167) dX12_byteAt_12 (by decide) ?_
    refine r_bipush (pc := 15) (v := 50) dX12_byteAt_15 (by decide) ?_
    refine r_aload_n (pc := 17) dX12_byteAt_17 rfl ?_
    refine r_getf (pc := 18) (k := 10) dX12_byteAt_18 hX12 eX12 (by decide) fX12_126 (fun _ q => mo hm q) rfl ?_
    rw [hu]
    refine r_imul (pc := 21) dX12_byteAt_21 ?_
    refine r_iadd (pc := 22) dX12_byteAt_22 ?_
    refine r_iload_n (pc := 23) dX12_byteAt_23 rfl ?_
    refine r_iadd (pc := 24) dX12_byteAt_24 ?_
    rw [e]
    refine r_ml (pc := 25) (i := 0) (j := (167 + 50 * u + j)) hm dX12_byteAt_25 (by decide) (nI_T (by omega)) (show (167 + 50 * u + j) < 267 by omega) ?_
    refine r_goto (pc := 26) 30 dX12_byteAt_26 (by decide) ?_
    refine r_ireturn (pc := 30) (ty := .int) dX12_byteAt_30 rfl rfl ⟨Nat.zero_le _, Nat.zero_le _⟩ (fun gE hg => ?_)
    exact ⟨rfl, hg⟩
set_option maxHeartbeats 4000000 in
theorem ct_M_ran (hm : m + 14 < h.1) {b : Int32} {n : Nat} (hn : s 26 = nI n) (hn2 : n ≤ 40) : CV 1 0 0 mX12_ran m [.int b] (mh m h s A) (fun v g => v = none ∧ MP m h (if n < 40 then upd s 26 (nI (n + 1)) else s) (if n < 40 then upA A 13 (upd (A 13) n b) else A) g) := by
  refine ⟨mV hm, ?_⟩
  refine ct_of (by decide) (fun _ _ => Nat.le_of_ble_eq_true rfl) ?_
  dsimp only [pad, ent]
  refine aw_P (P' := MP m h s A) (fun _ q => q) ?_
  have hTn := nI_T (n := n) (by omega)
  refine r_aload_n (pc := 0) dX12_ran_0 rfl ?_
  refine r_getf (pc := 1) (k := 26) dX12_ran_1 hX12 eX12 (by decide) fX12_244 (fun _ q => mo hm q) rfl ?_
  refine r_bipush (pc := 4) (v := 40) dX12_ran_4 (by decide) ?_
  rw [hn]
  refine r_icmp_ge (pc := 6) 29 dX12_ran_6 (by decide) (fun c6 => ?_) (fun c6 => ?_)
  · skip
    have k6 : ¬ n < 40 := fun x => by have := fa_le.mp c6; rw [hTn, show (40 : Int32).toInt = 40 from rfl] at this; omega
    rw [if_neg k6, if_neg k6]
    refine r_return (pc := 29) dX12_ran_29 rfl ⟨Nat.zero_le _, Nat.zero_le _⟩ (fun gE hg => ?_)
    exact ⟨rfl, hg⟩
  · skip
    have k6 : n < 40 := Decidable.byContradiction fun x => c6 (fa_le.mpr (by rw [hTn, show (40 : Int32).toInt = 40 from rfl]; omega))
    rw [if_pos k6, if_pos k6]
    refine r_aload_n (pc := 9) dX12_ran_9 rfl ?_
    refine r_getf (pc := 10) (k := 25) dX12_ran_10 hX12 eX12 (by decide) fX12_49 (fun _ q => mo hm q) rfl ?_
    refine r_aload_n (pc := 13) dX12_ran_13 rfl ?_
    refine r_getf (pc := 14) (k := 26) dX12_ran_14 hX12 eX12 (by decide) fX12_244 (fun _ q => mo hm q) rfl ?_
    rw [hn]
    refine r_iload_n (pc := 17) dX12_ran_17 rfl ?_
    refine r_ms (pc := 18) (i := 13) (j := n) hm dX12_ran_18 (by decide) (nI_T (by omega)) (show n < 40 by omega) ?_
    refine r_aload_n (pc := 19) dX12_ran_19 rfl ?_
    refine r_dup (pc := 20) dX12_ran_20 rfl ?_
    refine r_getf (pc := 21) (k := 26) dX12_ran_21 hX12 eX12 (by decide) fX12_244 (fun _ q => mo hm q) rfl ?_
    rw [hn]
    refine r_iconst (pc := 24) (v := 1) dX12_ran_24 (by decide) ?_
    refine r_iadd (pc := 25) dX12_ran_25 ?_
    rw [nI_1]
    refine r_mp (pc := 26) (k := 26) hm dX12_ran_26 fX12_244 (by decide) rfl rfl (fun _ _ => rfl) (fun _ _ => rfl) rfl ?_
    refine r_return (pc := 29) dX12_ran_29 rfl ⟨Nat.zero_le _, Nat.zero_le _⟩ (fun gE hg => ?_)
    exact ⟨rfl, hg⟩
set_option maxHeartbeats 4000000 in
theorem ct_M_drawn (hm : m + 14 < h.1) {n : Nat} (h0 : 0 < n) (hn : n ≤ 4000) : CV 1 0 0 mX12_drawn m [.int (nI n)] (mh m h s A) (fun v g => v = some (.int (nI (drawN (A 0 7) n))) ∧ MP m h s (upA A 0 (upd (A 0) 7 (drawI (A 0 7)))) g) := by
  refine ⟨mV hm, ?_⟩
  refine ct_of (by decide) (fun _ _ => Nat.le_of_ble_eq_true rfl) ?_
  dsimp only [pad, ent]
  refine aw_P (P' := MP m h s A) (fun _ q => q) ?_
  have hne : ¬ nI n = 0 := nI_ne0 h0 (by omega)
  have hv : ((drawI (A 0 7)).toUInt32 >>> ((8 : Int32).toUInt32 &&& Int32.toUInt32 31)).toInt32 % nI n = nI (drawN (A 0 7) n) := by
    have := (draw_ok (z := A 0 7) h0 hn).1
    unfold drawN
    rw [← this]
    unfold drawV
    rw [if_neg (nI_nle h0 (by omega))]
  refine r_aload_n (pc := 0) dX12_drawn_0 rfl ?_
  refine r_getf (pc := 1) (k := 0) dX12_drawn_1 hX12 eX12 (by decide) fX12_7 (fun _ q => mo hm q) rfl ?_
  refine r_bipush (pc := 4) (v := 7) dX12_drawn_4 (by decide) ?_
  refine r_aload_n (pc := 6) dX12_drawn_6 rfl ?_
  refine r_getf (pc := 7) (k := 0) dX12_drawn_7 hX12 eX12 (by decide) fX12_7 (fun _ q => mo hm q) rfl ?_
  refine r_bipush (pc := 10) (v := 7) dX12_drawn_10 (by decide) ?_
  refine r_ml (pc := 12) (i := 0) (j := 7) hm dX12_drawn_12 (by decide) rfl (by decide) ?_
  refine r_ldc (pc := 13) (v := 1103515245) dX12_drawn_13 qX12_207 ?_
  refine r_imul (pc := 15) dX12_drawn_15 ?_
  refine r_sipush (pc := 16) (v := 12345) dX12_drawn_16 (by decide) ?_
  refine r_iadd (pc := 19) dX12_drawn_19 ?_
  refine r_ms (pc := 20) (i := 0) (j := 7) hm dX12_drawn_20 (by decide) rfl (by decide) ?_
  refine r_aload_n (pc := 21) dX12_drawn_21 rfl ?_
  refine r_getf (pc := 22) (k := 0) dX12_drawn_22 hX12 eX12 (by decide) fX12_7 (fun _ q => mo hm q) rfl ?_
  refine r_bipush (pc := 25) (v := 7) dX12_drawn_25 (by decide) ?_
  refine r_ml (pc := 27) (i := 0) (j := 7) hm dX12_drawn_27 (by decide) rfl (by decide) ?_
  rw [show (upA A 0 (upd (A 0) 7 (A 0 7 * 1103515245 + 12345))) 0 7 = drawI (A 0 7) from rfl]
  refine r_bipush (pc := 28) (v := 8) dX12_drawn_28 (by decide) ?_
  refine r_iushr (pc := 30) dX12_drawn_30 rfl ?_
  refine r_iload_n (pc := 31) dX12_drawn_31 rfl ?_
  refine r_irem' (pc := 32) dX12_drawn_32 hne ?_
  rw [hv]
  refine r_ireturn (pc := 33) (ty := .int) dX12_drawn_33 rfl rfl ⟨Nat.zero_le _, Nat.zero_le _⟩ (fun gE hg => ?_)
  exact ⟨rfl, hg⟩
/-- all of a row is moved -/
def mvF (f g : Nat → Int32) : Nat → Int32 := fun x => if x < 267 then f x else g x
set_option maxHeartbeats 4000000 in
theorem ct_M_moveAll (hm : m + 14 < h.1) (i j : Nat) (hi : i < 4) (hj : j < 4) (hij : i ≠ j) : CV 1 0 0 mX12_moveAll m [.ref (m + (i + 1)), .ref (m + (j + 1))] (mh m h s A) (fun v g => v = none ∧ MP m h s (upA A j (mvF (A i) (A j))) g) := by
  refine ⟨mV hm, ?_⟩
  refine ct_of (by decide) (fun _ _ => Nat.le_of_ble_eq_true rfl) ?_
  dsimp only [pad, ent]
  have hl : ∀ x, x < 4 → mL x = 267 := by decide
  have L : ∀ k, k ≤ 267 → AW (fun _ => True) (rmd 1 0 0) mX12_moveAll 0 0 2 [some (.ref m), some (.ref (m + (i + 1))), some (.ref (m + (j + 1))), some (.int (nI k))] [] (MP m h s (upA A j (fun x => if x < k then A i x else A j x))) (fun v g => v = none ∧ MP m h s (upA A j (mvF (A i) (A j))) g) := by
    refine up_loop ?_ ?_
    · skip
      refine r_iload_n (pc := 2) dX12_moveAll_2 rfl ?_
      refine r_sipush (pc := 3) (v := 267) dX12_moveAll_3 (by decide) ?_
      refine r_icmp_ge (pc := 6) 21 dX12_moveAll_6 (by decide) (fun c6 => ?_) (fun c6 => ?_)
      · skip
        refine r_return (pc := 21) dX12_moveAll_21 rfl ⟨Nat.zero_le _, Nat.zero_le _⟩ (fun gE hg => ?_)
        exact ⟨rfl, hg⟩
      · skip
        exact absurd (by decide) c6
    · intro k hk ih
      have hT := nI_T (n := k) (by omega)
      refine r_iload_n (pc := 2) dX12_moveAll_2 rfl ?_
      refine r_sipush (pc := 3) (v := 267) dX12_moveAll_3 (by decide) ?_
      refine r_icmp_ge (pc := 6) 21 dX12_moveAll_6 (by decide) (fun c6 => absurd c6 (fun x => by have := fa_le.mp x; rw [hT, show (267 : Int32).toInt = 267 from rfl] at this; omega)) (fun c6 => ?_)
      refine r_aload_n (pc := 9) dX12_moveAll_9 rfl ?_
      refine r_iload_n (pc := 10) dX12_moveAll_10 rfl ?_
      refine r_aload_n (pc := 11) dX12_moveAll_11 rfl ?_
      refine r_iload_n (pc := 12) dX12_moveAll_12 rfl ?_
      refine r_ml (pc := 13) (i := i) (j := k) hm dX12_moveAll_13 (by omega) hT (by rw [hl i hi]; exact hk) ?_
      refine r_ms (pc := 14) (i := j) (j := k) hm dX12_moveAll_14 (by omega) hT (by rw [hl j hj]; exact hk) ?_
      refine r_iinc1 (pc := 15) dX12_moveAll_15 rfl (Nat.le_of_ble_eq_true rfl) rfl ?_
      dsimp only [lset]
      refine r_goto (pc := 18) 2 dX12_moveAll_18 (by decide) ?_
      rw [upA_2, upA_s, upA_n hij, nI_1, show upd (fun x => if x < k then A i x else A j x) k (A i k) = (fun x => if x < k + 1 then A i x else A j x) by
        funext x
        unfold upd
        by_cases e : x = k
        · rw [if_pos e, if_pos (by omega), e]
        · rw [if_neg e]
          dsimp only
          by_cases e2 : x < k
          · rw [if_pos e2, if_pos (by omega)]
          · rw [if_neg e2, if_neg (by omega)]]
      exact ih
  refine aw_P (P' := MP m h s (upA A j (fun x => if x < 0 then A i x else A j x))) (fun g q => by
    rw [show (fun x => if x < 0 then A i x else A j x) = A j from funext fun x => if_neg (Nat.not_lt_zero x), upA_id]
    exact q) ?_
  refine r_iconst (pc := 0) (v := 0) dX12_moveAll_0 (by decide) ?_
  refine r_istore_n (pc := 1) dX12_moveAll_1 rfl (Nat.le_of_ble_eq_true rfl) rfl ?_
  dsimp only [lset]
  exact L 0 (by omega)
end Sm
theorem wi_m1 {a : Int32} {n : Nat} (hn : n ≤ 4000) : wiB a 0 (nI n - 1) = decide (0 ≤ a.toInt ∧ a.toInt < n) := by
  have e : (nI n - 1).toInt = (n : Int) - 1 := by
    rw [Int32.toInt_sub, nI_T hn, t1]
    exact Int.bmod_eq_of_le (by omega) (by omega)
  unfold wiB
  rw [e, t0]
  by_cases c : 0 ≤ a.toInt ∧ a.toInt < n
  · rw [decide_eq_true c, decide_eq_true (by omega)]
  · rw [decide_eq_false c, decide_eq_false (by omega)]
theorem wi_l1 {a : Int32} {n : Nat} (hn : n ≤ 4000) : wiB a 1 (nI n - 1) = decide (0 < a.toInt ∧ a.toInt < n) := by
  have e : (nI n - 1).toInt = (n : Int) - 1 := by
    rw [Int32.toInt_sub, nI_T hn, t1]
    exact Int.bmod_eq_of_le (by omega) (by omega)
  unfold wiB
  rw [e, t1]
  by_cases c : 0 < a.toInt ∧ a.toInt < n
  · rw [decide_eq_true c, decide_eq_true (by omega)]
  · rw [decide_eq_false c, decide_eq_false (by omega)]
