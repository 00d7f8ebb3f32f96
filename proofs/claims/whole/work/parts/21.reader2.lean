/-! texts are read, further: the compared, the factor, the whole -/
set_option maxHeartbeats 4000000 in
theorem ct_Rd_readB {D : Nat} {op : Int32} {f : Int32 → List Int32 → RS → RS} (hD : 5 ≤ D) (hE : RdC D mX4_readS [.int op] f) : RdC (D + 1) mX4_readB [.int op] (fun use bs => cmpB bs (f use bs)) := by
  intro ρ tp tt use bs σ g P' hR hP
  refine ⟨hR.V, ?_⟩
  refine ct_of (by decide) (fun _ _ => Nat.le_of_ble_eq_true rfl) ?_
  dsimp only [pad, ent]
  unfold cmpB at hP
  dsimp only at hP
  obtain ⟨τ, hτ⟩ : ∃ τ, τ = f use bs σ := ⟨_, rfl⟩
  rw [← hτ] at hP
  have Y : τ.2.1 = true → (nxB bs τ = 60 ∨ nxB bs τ = 61 ∨ nxB bs τ = 62) → AW (fun _ => True) (rmd (D + 1) 0 0) mX4_readB 0 0 37 [some (.ref ρ), some (.int op), some (.int (nxB bs τ))] [] (fun g' => RdAt ρ tp tt use bs τ g' ∧ Off ρ 3 g g') (fun v g' => v = none ∧ P' g') := by
    intro y1 y2
    have yl : τ.1 < bs.length := nx_lt (c := nxB bs τ) rfl (fun q => by rw [q] at y2; revert y2; decide)
    rw [if_pos ⟨y1, by simp only [List.mem_cons, List.not_mem_nil, or_false]; exact y2⟩] at hP
    refine r_aload_n (pc := 37) dX4_readB_37 rfl ?_
    refine r_dup (pc := 38) dX4_readB_38 rfl ?_
    refine r_getf (pc := 39) (k := 3) dX4_readB_39 hX4 eX4 (by decide) fX4_27 (fun _ q => q.1.o) rfl ?_
    refine r_iconst (pc := 42) (v := 1) dX4_readB_42 (by decide) ?_
    refine r_iadd (pc := 43) dX4_readB_43 ?_
    refine r_putf (pc := 44) (k := 3) (P' := fun g' => RdAt ρ tp tt use bs (adB τ) g' ∧ Off ρ 3 g g') tyX4 dX4_readB_44 hX4 tyX4_ok nmX4 eX4 (by decide) fX4_27 rfl rfl (fun _ _ => rfl) (fun _ _ => rfl) (Nat.le_of_ble_eq_true rfl) (fun _ q => q.1.o) (fun _ q => ⟨by rw [nI_s]; exact q.1.put yl, q.2.set (by omega) (by omega)⟩) ?_
    refine r_aload_n (pc := 47) dX4_readB_47 rfl ?_
    refine r_iload_n (pc := 48) dX4_readB_48 rfl ?_
    refine r_Vv (pc := 49) (μ' := mX4_readS) dX4_readB_49 nX4_74 iX4_readS vX4_readS kX4_readS rfl rfl (rr (by omega) rfl) rfl ⟨Nat.zero_le _, Nat.zero_le _⟩ (fun g' q => hE ρ tp tt use bs (adB τ) g' (fun g2 => RdAt ρ tp tt use bs (f use bs (adB τ)) g2 ∧ Off ρ 3 g g2) q.1 (fun g2 a b => ⟨a, q.2.tr b⟩)) ?_
    refine r_aload_n (pc := 52) dX4_readB_52 rfl ?_
    refine r_iload_n (pc := 53) dX4_readB_53 rfl ?_
    refine r_Vv (pc := 54) (μ' := mX4_emit) dX4_readB_54 nX4_68 iX4_emit vX4_emit kX4_emit rfl rfl (rr (by omega) rfl) rfl ⟨Nat.zero_le _, Nat.zero_le _⟩ (fun g' q => ct_Rd_emit q.1 (fun g2 a b => hP g2 a (q.2.tr b))) ?_
    refine r_return (pc := 57) dX4_readB_57 rfl ⟨Nat.zero_le _, Nat.zero_le _⟩ (fun gE hg => ?_)
    exact ⟨rfl, hg⟩
  refine aw_P (P' := fun g' => RdAt ρ tp tt use bs σ g' ∧ Off ρ 3 g g') (fun g' e => by subst e; exact ⟨hR, Off.rf _ _ _⟩) ?_
  refine r_aload_n (pc := 0) dX4_readB_0 rfl ?_
  refine r_iload_n (pc := 1) dX4_readB_1 rfl ?_
  refine r_Vv (pc := 2) (μ' := mX4_readS) dX4_readB_2 nX4_74 iX4_readS vX4_readS kX4_readS rfl rfl (rr (by omega) rfl) rfl ⟨Nat.zero_le _, Nat.zero_le _⟩ (fun g' q => hE ρ tp tt use bs σ g' (fun g2 => RdAt ρ tp tt use bs τ g2 ∧ Off ρ 3 g g2) q.1 (fun g2 a b => ⟨by rw [hτ]; exact a, q.2.tr b⟩)) ?_
  refine r_aload_n (pc := 5) dX4_readB_5 rfl ?_
  refine r_Vi (pc := 6) (μ' := mX4_next) dX4_readB_6 nX4_56 iX4_next vX4_next kX4_next rfl rfl (rr (by omega) rfl) rfl ⟨Nat.zero_le _, Nat.zero_le _⟩ (fun g' q => ct_Rd_next q.1 q) ?_
  refine r_istore_n (pc := 9) dX4_readB_9 rfl (Nat.le_of_ble_eq_true rfl) rfl ?_
  dsimp only [lset]
  refine r_aload_n (pc := 10) dX4_readB_10 rfl ?_
  refine r_bipush (pc := 11) (v := 60) dX4_readB_11 (by decide) ?_
  refine r_Vi (pc := 13) (μ' := mX4_nextIs) dX4_readB_13 nX4_65 iX4_nextIs vX4_nextIs kX4_nextIs rfl rfl (rr (by omega) rfl) rfl ⟨Nat.zero_le _, Nat.zero_le _⟩ (fun g' q => ct_Rd_nextIs q.1 q) ?_
  refine r_if_ne (pc := 16) 37 dX4_readB_16 (by decide) (fun c16 => ?_) (fun c16 => ?_)
  · skip
    exact Y (isB_op (b2i_n0.mp c16)).1 (Or.inl (isB_op (b2i_n0.mp c16)).2)
  · skip
    have n16 := isB_no (b2i_0.mp c16)
    refine r_aload_n (pc := 19) dX4_readB_19 rfl ?_
    refine r_bipush (pc := 20) (v := 61) dX4_readB_20 (by decide) ?_
    refine r_Vi (pc := 22) (μ' := mX4_nextIs) dX4_readB_22 nX4_65 iX4_nextIs vX4_nextIs kX4_nextIs rfl rfl (rr (by omega) rfl) rfl ⟨Nat.zero_le _, Nat.zero_le _⟩ (fun g' q => ct_Rd_nextIs q.1 q) ?_
    refine r_if_ne (pc := 25) 37 dX4_readB_25 (by decide) (fun c25 => ?_) (fun c25 => ?_)
    · skip
      exact Y (isB_op (b2i_n0.mp c25)).1 (Or.inr (Or.inl (isB_op (b2i_n0.mp c25)).2))
    · skip
      have n25 := isB_no (b2i_0.mp c25)
      refine r_aload_n (pc := 28) dX4_readB_28 rfl ?_
      refine r_bipush (pc := 29) (v := 62) dX4_readB_29 (by decide) ?_
      refine r_Vi (pc := 31) (μ' := mX4_nextIs) dX4_readB_31 nX4_65 iX4_nextIs vX4_nextIs kX4_nextIs rfl rfl (rr (by omega) rfl) rfl ⟨Nat.zero_le _, Nat.zero_le _⟩ (fun g' q => ct_Rd_nextIs q.1 q) ?_
      refine r_if_eq (pc := 34) 57 dX4_readB_34 (by decide) (fun c34 => ?_) (fun c34 => ?_)
      · skip
        have n34 := isB_no (b2i_0.mp c34)
        rw [if_neg (fun q => by
          have m := q.2
          simp only [List.mem_cons, List.not_mem_nil, or_false] at m
          rcases m with m | m | m
          · exact n16 ⟨q.1, m⟩
          · exact n25 ⟨q.1, m⟩
          · exact n34 ⟨q.1, m⟩)] at hP
        refine r_return (pc := 57) dX4_readB_57 rfl ⟨Nat.zero_le _, Nat.zero_le _⟩ (fun gE hg => ?_)
        exact ⟨rfl, hP _ hg.1 hg.2⟩
      · skip
        exact Y (isB_op (b2i_n0.mp c34)).1 (Or.inr (Or.inr (isB_op (b2i_n0.mp c34)).2))
theorem ct_Rd_all {D : Nat} {op : Int32} {f : Int32 → List Int32 → RS → RS} (hD : 5 ≤ D) (hE : RdC D mX4_readQ [.int op] f) : RdC (D + 5) mX4_readT [.int op] (fun use bs => allB bs (f use bs)) :=
  ct_Rd_readT (by omega) (ct_Rd_readA (by omega) (ct_Rd_readB (by omega) (ct_Rd_readS (by omega) (ct_Rd_readP hD hE))))
set_option maxHeartbeats 8000000 in
theorem ct_Rd_readQ : ∀ d, d ≤ 5 → RdC (10 + 6 * d) mX4_readQ [.int (nI (5 - d))] (fun use bs => facB use bs d) := by
  intro d
  induction d with
  | zero =>
    intro hd ρ tp tt use bs σ g P' hR hP
    refine ⟨hR.V, ?_⟩
    refine ct_of (by decide) (fun _ _ => Nat.le_of_ble_eq_true rfl) ?_
    dsimp only [pad, ent]
    dsimp only at hP
    rw [facB] at hP
    refine aw_P (P' := fun g' => RdAt ρ tp tt use bs σ g' ∧ Off ρ 3 g g') (fun g' e => by subst e; exact ⟨hR, Off.rf _ _ _⟩) ?_
    refine r_aload_n (pc := 0) dX4_readQ_0 rfl ?_
    refine r_Vi (pc := 1) (μ' := mX4_next) dX4_readQ_1 nX4_56 iX4_next vX4_next kX4_next rfl rfl (rr (by omega) rfl) rfl ⟨Nat.zero_le _, Nat.zero_le _⟩ (fun g' q => ct_Rd_next q.1 q) ?_
    refine r_istore_n (pc := 4) dX4_readQ_4 rfl (Nat.le_of_ble_eq_true rfl) rfl ?_
    dsimp only [lset]
    refine r_aload_n (pc := 5) dX4_readQ_5 rfl ?_
    refine r_getf (pc := 6) (k := 4) dX4_readQ_6 hX4 eX4 (by decide) fX4_31 (fun _ q => q.1.o) rfl ?_
    refine r_if_ne (pc := 9) 13 dX4_readQ_9 (by decide) (fun c9 => ?_) (fun c9 => ?_)
    · skip
      have k9 := b2i_n0.mp c9
      rw [if_neg (by rw [k9]; decide)] at hP
      refine r_iload_n (pc := 13) dX4_readQ_13 rfl ?_
      refine r_Sp (pc := 14) (μ' := mX4_isDigit) dX4_readQ_14 nX4_83 sX4_isDigit kX4_isDigit rfl rfl (rr (by omega) rfl) rfl ⟨Nat.zero_le _, Nat.zero_le _⟩ (fun h => ct_Rd_isDigit h) ?_
      refine r_if_eq (pc := 17) 27 dX4_readQ_17 (by decide) (fun c17 => ?_) (fun c17 => ?_)
      · skip
        have k17 := b2i_0.mp c17
        rw [if_neg (by rw [k17]; decide)] at hP
        refine r_aload_n (pc := 27) dX4_readQ_27 rfl ?_
        refine r_getf (pc := 28) (k := 2) dX4_readQ_28 hX4 eX4 (by decide) fX4_23 (fun _ q => q.1.o) rfl ?_
        refine r_ifnull (pc := 31) dX4_readQ_31 ?_
        refine r_aload_n (pc := 34) dX4_readQ_34 rfl ?_
        refine r_getf (pc := 35) (k := 2) dX4_readQ_35 hX4 eX4 (by decide) fX4_23 (fun _ q => q.1.o) rfl ?_
        refine r_iload_n (pc := 38) dX4_readQ_38 rfl ?_
        refine r_Vi (pc := 39) (μ' := mX8_nameOf) dX4_readQ_39 nX4_89 iX8_nameOf vX8_nameOf kX8_nameOf rfl rfl (rr (by omega) rfl) rfl ⟨Nat.zero_le _, Nat.zero_le _⟩ (fun g' q => ct_Text_nameOf q.1.2.2.2.2.1.choose_spec q) ?_
        refine r_if_lt (pc := 42) 78 dX4_readQ_42 (by decide) (fun c42 => ?_) (fun c42 => ?_)
        · skip
          rw [if_neg (Int32.not_le.mpr c42)] at hP
          refine r_iload_n (pc := 78) dX4_readQ_78 rfl ?_
          refine r_bipush (pc := 79) (v := 33) dX4_readQ_79 (by decide) ?_
          refine r_icmp_ne (pc := 81) 115 dX4_readQ_81 (by decide) (fun c81 => ?_) (fun c81 => ?_)
          · skip
            refine r_iload_n (pc := 115) dX4_readQ_115 rfl ?_
            refine r_bipush (pc := 116) (v := 40) dX4_readQ_116 (by decide) ?_
            refine r_icmp_ne (pc := 118) 173 dX4_readQ_118 (by decide) (fun c118 => ?_) (fun c118 => ?_)
            · skip
              refine r_aload_n (pc := 173) dX4_readQ_173 rfl ?_
              refine r_iconst (pc := 174) (v := 0) dX4_readQ_174 (by decide) ?_
              refine r_putf (pc := 175) (k := 4) (P' := fun g' => RdAt ρ tp tt use bs (flB σ) g' ∧ Off ρ 3 g g') tyX4 dX4_readQ_175 hX4 tyX4_ok nmX4 eX4 (by decide) fX4_31 rfl rfl (fun _ _ => rfl) (fun _ _ => rfl) (Nat.le_of_ble_eq_true rfl) (fun _ q => q.1.o) (fun _ q => ⟨q.1.put (f := false) q.1.2.2.2.2.2.1, q.2.set (by omega) (by omega)⟩) ?_
              refine r_return (pc := 178) dX4_readQ_178 rfl ⟨Nat.zero_le _, Nat.zero_le _⟩ (fun gE hg => ?_)
              first
              | exact ⟨rfl, hg⟩
              | exact ⟨rfl, hP _ hg.1 hg.2⟩
            · skip
              refine r_iload_n (pc := 121) dX4_readQ_121 rfl ?_
              refine r_iconst (pc := 122) (v := 5) dX4_readQ_122 (by decide) ?_
              refine r_icmp_ge (pc := 123) 173 dX4_readQ_123 (by decide) (fun c123 => ?_) (fun c123 => ?_)
              · skip
                refine r_aload_n (pc := 173) dX4_readQ_173 rfl ?_
                refine r_iconst (pc := 174) (v := 0) dX4_readQ_174 (by decide) ?_
                refine r_putf (pc := 175) (k := 4) (P' := fun g' => RdAt ρ tp tt use bs (flB σ) g' ∧ Off ρ 3 g g') tyX4 dX4_readQ_175 hX4 tyX4_ok nmX4 eX4 (by decide) fX4_31 rfl rfl (fun _ _ => rfl) (fun _ _ => rfl) (Nat.le_of_ble_eq_true rfl) (fun _ q => q.1.o) (fun _ q => ⟨q.1.put (f := false) q.1.2.2.2.2.2.1, q.2.set (by omega) (by omega)⟩) ?_
                refine r_return (pc := 178) dX4_readQ_178 rfl ⟨Nat.zero_le _, Nat.zero_le _⟩ (fun gE hg => ?_)
                first
                | exact ⟨rfl, hg⟩
                | exact ⟨rfl, hP _ hg.1 hg.2⟩
              · skip
                exact absurd (show (5 : Int32) ≤ nI (5 - 0) by decide) c123
          · skip
            refine r_iload_n (pc := 84) dX4_readQ_84 rfl ?_
            refine r_iconst (pc := 85) (v := 5) dX4_readQ_85 (by decide) ?_
            refine r_icmp_ge (pc := 86) 115 dX4_readQ_86 (by decide) (fun c86 => ?_) (fun c86 => ?_)
            · skip
              refine r_iload_n (pc := 115) dX4_readQ_115 rfl ?_
              refine r_bipush (pc := 116) (v := 40) dX4_readQ_116 (by decide) ?_
              refine r_icmp_ne (pc := 118) 173 dX4_readQ_118 (by decide) (fun c118 => ?_) (fun c118 => ?_)
              · skip
                refine r_aload_n (pc := 173) dX4_readQ_173 rfl ?_
                refine r_iconst (pc := 174) (v := 0) dX4_readQ_174 (by decide) ?_
                refine r_putf (pc := 175) (k := 4) (P' := fun g' => RdAt ρ tp tt use bs (flB σ) g' ∧ Off ρ 3 g g') tyX4 dX4_readQ_175 hX4 tyX4_ok nmX4 eX4 (by decide) fX4_31 rfl rfl (fun _ _ => rfl) (fun _ _ => rfl) (Nat.le_of_ble_eq_true rfl) (fun _ q => q.1.o) (fun _ q => ⟨q.1.put (f := false) q.1.2.2.2.2.2.1, q.2.set (by omega) (by omega)⟩) ?_
                refine r_return (pc := 178) dX4_readQ_178 rfl ⟨Nat.zero_le _, Nat.zero_le _⟩ (fun gE hg => ?_)
                first
                | exact ⟨rfl, hg⟩
                | exact ⟨rfl, hP _ hg.1 hg.2⟩
              · skip
                refine r_iload_n (pc := 121) dX4_readQ_121 rfl ?_
                refine r_iconst (pc := 122) (v := 5) dX4_readQ_122 (by decide) ?_
                refine r_icmp_ge (pc := 123) 173 dX4_readQ_123 (by decide) (fun c123 => ?_) (fun c123 => ?_)
                · skip
                  refine r_aload_n (pc := 173) dX4_readQ_173 rfl ?_
                  refine r_iconst (pc := 174) (v := 0) dX4_readQ_174 (by decide) ?_
                  refine r_putf (pc := 175) (k := 4) (P' := fun g' => RdAt ρ tp tt use bs (flB σ) g' ∧ Off ρ 3 g g') tyX4 dX4_readQ_175 hX4 tyX4_ok nmX4 eX4 (by decide) fX4_31 rfl rfl (fun _ _ => rfl) (fun _ _ => rfl) (Nat.le_of_ble_eq_true rfl) (fun _ q => q.1.o) (fun _ q => ⟨q.1.put (f := false) q.1.2.2.2.2.2.1, q.2.set (by omega) (by omega)⟩) ?_
                  refine r_return (pc := 178) dX4_readQ_178 rfl ⟨Nat.zero_le _, Nat.zero_le _⟩ (fun gE hg => ?_)
                  first
                  | exact ⟨rfl, hg⟩
                  | exact ⟨rfl, hP _ hg.1 hg.2⟩
                · skip
                  exact absurd (show (5 : Int32) ≤ nI (5 - 0) by decide) c123
            · skip
              exact absurd (show (5 : Int32) ≤ nI (5 - 0) by decide) c86
        · skip
          have k42 : 0 ≤ nameI use (nxB bs σ) := Int32.not_lt.mp c42
          have yl := name_lt k42
          rw [if_pos k42] at hP
          refine r_aload_n (pc := 45) dX4_readQ_45 rfl ?_
          refine r_dup (pc := 46) dX4_readQ_46 rfl ?_
          refine r_getf (pc := 47) (k := 3) dX4_readQ_47 hX4 eX4 (by decide) fX4_27 (fun _ q => q.1.o) rfl ?_
          refine r_iconst (pc := 50) (v := 1) dX4_readQ_50 (by decide) ?_
          refine r_iadd (pc := 51) dX4_readQ_51 ?_
          refine r_putf (pc := 52) (k := 3) (P' := fun g' => RdAt ρ tp tt use bs (adB σ) g' ∧ Off ρ 3 g g') tyX4 dX4_readQ_52 hX4 tyX4_ok nmX4 eX4 (by decide) fX4_27 rfl rfl (fun _ _ => rfl) (fun _ _ => rfl) (Nat.le_of_ble_eq_true rfl) (fun _ q => q.1.o) (fun _ q => ⟨by rw [nI_s]; exact q.1.put yl, q.2.set (by omega) (by omega)⟩) ?_
          refine r_aload_n (pc := 55) dX4_readQ_55 rfl ?_
          refine r_getf (pc := 56) (k := 0) dX4_readQ_56 hX4 eX4 (by decide) fX4_14 (fun _ q => q.1.o) rfl ?_
          refine r_sipush (pc := 59) (v := 10000) dX4_readQ_59 (by decide) ?_
          refine r_aload_n (pc := 62) dX4_readQ_62 rfl ?_
          refine r_getf (pc := 63) (k := 2) dX4_readQ_63 hX4 eX4 (by decide) fX4_23 (fun _ q => q.1.o) rfl ?_
          refine r_iload_n (pc := 66) dX4_readQ_66 rfl ?_
          refine r_Vi (pc := 67) (μ' := mX8_nameOf) dX4_readQ_67 nX4_89 iX8_nameOf vX8_nameOf kX8_nameOf rfl rfl (rr (by omega) rfl) rfl ⟨Nat.zero_le _, Nat.zero_le _⟩ (fun g' q => ct_Text_nameOf q.1.2.2.2.2.1.choose_spec q) ?_
          refine r_iadd (pc := 70) dX4_readQ_70 ?_
          refine r_Vi (pc := 71) (μ' := mX5_add) dX4_readQ_71 nX4_59 iX5_add vX5_add kX5_add rfl rfl (rr (by omega) rfl) rfl ⟨Nat.zero_le _, Nat.zero_le _⟩ (fun g' q => ct_Row_add q.1.2.2.1 (fun g2 a b => hP g2 (q.1.setL a b) (q.2.tr (b.wide (by omega) (by omega))))) ?_
          refine r_pop (pc := 74) dX4_readQ_74 rfl ?_
          refine r_goto (pc := 75) 178 dX4_readQ_75 (by decide) ?_
          refine r_return (pc := 178) dX4_readQ_178 rfl ⟨Nat.zero_le _, Nat.zero_le _⟩ (fun gE hg => ?_)
          first
          | exact ⟨rfl, hg⟩
          | exact ⟨rfl, hP _ hg.1 hg.2⟩
      · skip
        have k17 := b2i_n0.mp c17
        rw [if_pos k17] at hP
        refine r_aload_n (pc := 20) dX4_readQ_20 rfl ?_
        refine r_Vv (pc := 21) (μ' := mX4_readNumber) dX4_readQ_21 nX4_86 iX4_readNumber vX4_readNumber kX4_readNumber rfl rfl (rr (by omega) rfl) rfl ⟨Nat.zero_le _, Nat.zero_le _⟩ (fun g' q => ct_Rd_readNumber q.1 (fun g2 a b => hP g2 a (q.2.tr b))) ?_
        refine r_goto (pc := 24) 178 dX4_readQ_24 (by decide) ?_
        refine r_return (pc := 178) dX4_readQ_178 rfl ⟨Nat.zero_le _, Nat.zero_le _⟩ (fun gE hg => ?_)
        first
        | exact ⟨rfl, hg⟩
        | exact ⟨rfl, hP _ hg.1 hg.2⟩
    · skip
      have k9 := b2i_0.mp c9
      rw [if_pos k9] at hP
      refine r_return (pc := 12) dX4_readQ_12 rfl ⟨Nat.zero_le _, Nat.zero_le _⟩ (fun gE hg => ?_)
      exact ⟨rfl, hP _ hg.1 hg.2⟩
  | succ d ih =>
    intro hd ρ tp tt use bs σ g P' hR hP
    have hT : (nI (5 - (d + 1))).toInt = ((5 - (d + 1) : Nat) : Int) := nI_T (by omega)
    refine ⟨hR.V, ?_⟩
    refine ct_of (by decide) (fun _ _ => Nat.le_of_ble_eq_true rfl) ?_
    dsimp only [pad, ent]
    dsimp only at hP
    rw [facB] at hP
    refine aw_P (P' := fun g' => RdAt ρ tp tt use bs σ g' ∧ Off ρ 3 g g') (fun g' e => by subst e; exact ⟨hR, Off.rf _ _ _⟩) ?_
    refine r_aload_n (pc := 0) dX4_readQ_0 rfl ?_
    refine r_Vi (pc := 1) (μ' := mX4_next) dX4_readQ_1 nX4_56 iX4_next vX4_next kX4_next rfl rfl (rr (by omega) rfl) rfl ⟨Nat.zero_le _, Nat.zero_le _⟩ (fun g' q => ct_Rd_next q.1 q) ?_
    refine r_istore_n (pc := 4) dX4_readQ_4 rfl (Nat.le_of_ble_eq_true rfl) rfl ?_
    dsimp only [lset]
    refine r_aload_n (pc := 5) dX4_readQ_5 rfl ?_
    refine r_getf (pc := 6) (k := 4) dX4_readQ_6 hX4 eX4 (by decide) fX4_31 (fun _ q => q.1.o) rfl ?_
    refine r_if_ne (pc := 9) 13 dX4_readQ_9 (by decide) (fun c9 => ?_) (fun c9 => ?_)
    · skip
      have k9 := b2i_n0.mp c9
      rw [if_neg (by rw [k9]; decide)] at hP
      refine r_iload_n (pc := 13) dX4_readQ_13 rfl ?_
      refine r_Sp (pc := 14) (μ' := mX4_isDigit) dX4_readQ_14 nX4_83 sX4_isDigit kX4_isDigit rfl rfl (rr (by omega) rfl) rfl ⟨Nat.zero_le _, Nat.zero_le _⟩ (fun h => ct_Rd_isDigit h) ?_
      refine r_if_eq (pc := 17) 27 dX4_readQ_17 (by decide) (fun c17 => ?_) (fun c17 => ?_)
      · skip
        have k17 := b2i_0.mp c17
        rw [if_neg (by rw [k17]; decide)] at hP
        refine r_aload_n (pc := 27) dX4_readQ_27 rfl ?_
        refine r_getf (pc := 28) (k := 2) dX4_readQ_28 hX4 eX4 (by decide) fX4_23 (fun _ q => q.1.o) rfl ?_
        refine r_ifnull (pc := 31) dX4_readQ_31 ?_
        refine r_aload_n (pc := 34) dX4_readQ_34 rfl ?_
        refine r_getf (pc := 35) (k := 2) dX4_readQ_35 hX4 eX4 (by decide) fX4_23 (fun _ q => q.1.o) rfl ?_
        refine r_iload_n (pc := 38) dX4_readQ_38 rfl ?_
        refine r_Vi (pc := 39) (μ' := mX8_nameOf) dX4_readQ_39 nX4_89 iX8_nameOf vX8_nameOf kX8_nameOf rfl rfl (rr (by omega) rfl) rfl ⟨Nat.zero_le _, Nat.zero_le _⟩ (fun g' q => ct_Text_nameOf q.1.2.2.2.2.1.choose_spec q) ?_
        refine r_if_lt (pc := 42) 78 dX4_readQ_42 (by decide) (fun c42 => ?_) (fun c42 => ?_)
        · skip
          rw [if_neg (Int32.not_le.mpr c42)] at hP
          refine r_iload_n (pc := 78) dX4_readQ_78 rfl ?_
          refine r_bipush (pc := 79) (v := 33) dX4_readQ_79 (by decide) ?_
          refine r_icmp_ne (pc := 81) 115 dX4_readQ_81 (by decide) (fun c81 => ?_) (fun c81 => ?_)
          · skip
            rw [if_neg c81] at hP
            refine r_iload_n (pc := 115) dX4_readQ_115 rfl ?_
            refine r_bipush (pc := 116) (v := 40) dX4_readQ_116 (by decide) ?_
            refine r_icmp_ne (pc := 118) 173 dX4_readQ_118 (by decide) (fun c118 => ?_) (fun c118 => ?_)
            · skip
              rw [if_neg c118] at hP
              refine r_aload_n (pc := 173) dX4_readQ_173 rfl ?_
              refine r_iconst (pc := 174) (v := 0) dX4_readQ_174 (by decide) ?_
              refine r_putf (pc := 175) (k := 4) (P' := fun g' => RdAt ρ tp tt use bs (flB σ) g' ∧ Off ρ 3 g g') tyX4 dX4_readQ_175 hX4 tyX4_ok nmX4 eX4 (by decide) fX4_31 rfl rfl (fun _ _ => rfl) (fun _ _ => rfl) (Nat.le_of_ble_eq_true rfl) (fun _ q => q.1.o) (fun _ q => ⟨q.1.put (f := false) q.1.2.2.2.2.2.1, q.2.set (by omega) (by omega)⟩) ?_
              refine r_return (pc := 178) dX4_readQ_178 rfl ⟨Nat.zero_le _, Nat.zero_le _⟩ (fun gE hg => ?_)
              first
              | exact ⟨rfl, hg⟩
              | exact ⟨rfl, hP _ hg.1 hg.2⟩
            · skip
              have yl := nx_lt c118 (by decide)
              rw [if_pos c118] at hP
              refine r_iload_n (pc := 121) dX4_readQ_121 rfl ?_
              refine r_iconst (pc := 122) (v := 5) dX4_readQ_122 (by decide) ?_
              refine r_icmp_ge (pc := 123) 173 dX4_readQ_123 (by decide) (fun c123 => ?_) (fun c123 => ?_)
              · skip
                exact absurd (fa_le.mp c123) (by rw [hT, show (5 : Int32).toInt = 5 from rfl]; omega)
              · skip
                refine r_aload_n (pc := 126) dX4_readQ_126 rfl ?_
                refine r_dup (pc := 127) dX4_readQ_127 rfl ?_
                refine r_getf (pc := 128) (k := 3) dX4_readQ_128 hX4 eX4 (by decide) fX4_27 (fun _ q => q.1.o) rfl ?_
                refine r_iconst (pc := 131) (v := 1) dX4_readQ_131 (by decide) ?_
                refine r_iadd (pc := 132) dX4_readQ_132 ?_
                refine r_putf (pc := 133) (k := 3) (P' := fun g' => RdAt ρ tp tt use bs (adB σ) g' ∧ Off ρ 3 g g') tyX4 dX4_readQ_133 hX4 tyX4_ok nmX4 eX4 (by decide) fX4_27 rfl rfl (fun _ _ => rfl) (fun _ _ => rfl) (Nat.le_of_ble_eq_true rfl) (fun _ q => q.1.o) (fun _ q => ⟨by rw [nI_s]; exact q.1.put yl, q.2.set (by omega) (by omega)⟩) ?_
                refine r_aload_n (pc := 136) dX4_readQ_136 rfl ?_
                refine r_iload_n (pc := 137) dX4_readQ_137 rfl ?_
                refine r_iconst (pc := 138) (v := 1) dX4_readQ_138 (by decide) ?_
                refine r_iadd (pc := 139) dX4_readQ_139 ?_
                rw [nI_s, show 5 - (d + 1) + 1 = 5 - d by omega]
                refine r_Vv (pc := 140) (μ' := mX4_readT) dX4_readQ_140 nX4_38 iX4_readT vX4_readT kX4_readT rfl rfl (rr (by omega) rfl) rfl ⟨Nat.zero_le _, Nat.zero_le _⟩ (fun g' q => ct_Rd_all (by omega) (ih (by omega)) ρ tp tt use bs (adB σ) g' (fun g2 => RdAt ρ tp tt use bs (allB bs (facB use bs d) (adB σ)) g2 ∧ Off ρ 3 g g2) q.1 (fun g2 a b => ⟨a, q.2.tr b⟩)) ?_
                refine r_aload_n (pc := 143) dX4_readQ_143 rfl ?_
                refine r_bipush (pc := 144) (v := 41) dX4_readQ_144 (by decide) ?_
                refine r_Vi (pc := 146) (μ' := mX4_nextIs) dX4_readQ_146 nX4_65 iX4_nextIs vX4_nextIs kX4_nextIs rfl rfl (rr (by omega) rfl) rfl ⟨Nat.zero_le _, Nat.zero_le _⟩ (fun g' q => ct_Rd_nextIs q.1 q) ?_
                refine r_if_eq (pc := 149) 165 dX4_readQ_149 (by decide) (fun c149 => ?_) (fun c149 => ?_)
                · skip
                  have k149 := b2i_0.mp c149
                  rw [if_neg (by rw [k149]; decide)] at hP
                  refine r_aload_n (pc := 165) dX4_readQ_165 rfl ?_
                  refine r_iconst (pc := 166) (v := 0) dX4_readQ_166 (by decide) ?_
                  refine r_putf (pc := 167) (k := 4) (P' := fun g' => RdAt ρ tp tt use bs (flB (allB bs (facB use bs d) (adB σ))) g' ∧ Off ρ 3 g g') tyX4 dX4_readQ_167 hX4 tyX4_ok nmX4 eX4 (by decide) fX4_31 rfl rfl (fun _ _ => rfl) (fun _ _ => rfl) (Nat.le_of_ble_eq_true rfl) (fun _ q => q.1.o) (fun _ q => ⟨q.1.put (f := false) q.1.2.2.2.2.2.1, q.2.set (by omega) (by omega)⟩) ?_
                  refine r_goto (pc := 170) 178 dX4_readQ_170 (by decide) ?_
                  refine r_return (pc := 178) dX4_readQ_178 rfl ⟨Nat.zero_le _, Nat.zero_le _⟩ (fun gE hg => ?_)
                  first
                  | exact ⟨rfl, hg⟩
                  | exact ⟨rfl, hP _ hg.1 hg.2⟩
                · skip
                  have k149 := b2i_n0.mp c149
                  have yl2 := nx_lt (isB_op k149).2 (by decide)
                  rw [if_pos k149] at hP
                  refine r_aload_n (pc := 152) dX4_readQ_152 rfl ?_
                  refine r_dup (pc := 153) dX4_readQ_153 rfl ?_
                  refine r_getf (pc := 154) (k := 3) dX4_readQ_154 hX4 eX4 (by decide) fX4_27 (fun _ q => q.1.o) rfl ?_
                  refine r_iconst (pc := 157) (v := 1) dX4_readQ_157 (by decide) ?_
                  refine r_iadd (pc := 158) dX4_readQ_158 ?_
                  refine r_putf (pc := 159) (k := 3) (P' := fun g' => RdAt ρ tp tt use bs (adB (allB bs (facB use bs d) (adB σ))) g' ∧ Off ρ 3 g g') tyX4 dX4_readQ_159 hX4 tyX4_ok nmX4 eX4 (by decide) fX4_27 rfl rfl (fun _ _ => rfl) (fun _ _ => rfl) (Nat.le_of_ble_eq_true rfl) (fun _ q => q.1.o) (fun _ q => ⟨by rw [nI_s]; exact q.1.put yl2, q.2.set (by omega) (by omega)⟩) ?_
                  refine r_goto (pc := 162) 178 dX4_readQ_162 (by decide) ?_
                  refine r_return (pc := 178) dX4_readQ_178 rfl ⟨Nat.zero_le _, Nat.zero_le _⟩ (fun gE hg => ?_)
                  first
                  | exact ⟨rfl, hg⟩
                  | exact ⟨rfl, hP _ hg.1 hg.2⟩
          · skip
            have yl := nx_lt c81 (by decide)
            rw [if_pos c81] at hP
            refine r_iload_n (pc := 84) dX4_readQ_84 rfl ?_
            refine r_iconst (pc := 85) (v := 5) dX4_readQ_85 (by decide) ?_
            refine r_icmp_ge (pc := 86) 115 dX4_readQ_86 (by decide) (fun c86 => ?_) (fun c86 => ?_)
            · skip
              exact absurd (fa_le.mp c86) (by rw [hT, show (5 : Int32).toInt = 5 from rfl]; omega)
            · skip
              refine r_aload_n (pc := 89) dX4_readQ_89 rfl ?_
              refine r_dup (pc := 90) dX4_readQ_90 rfl ?_
              refine r_getf (pc := 91) (k := 3) dX4_readQ_91 hX4 eX4 (by decide) fX4_27 (fun _ q => q.1.o) rfl ?_
              refine r_iconst (pc := 94) (v := 1) dX4_readQ_94 (by decide) ?_
              refine r_iadd (pc := 95) dX4_readQ_95 ?_
              refine r_putf (pc := 96) (k := 3) (P' := fun g' => RdAt ρ tp tt use bs (adB σ) g' ∧ Off ρ 3 g g') tyX4 dX4_readQ_96 hX4 tyX4_ok nmX4 eX4 (by decide) fX4_27 rfl rfl (fun _ _ => rfl) (fun _ _ => rfl) (Nat.le_of_ble_eq_true rfl) (fun _ q => q.1.o) (fun _ q => ⟨by rw [nI_s]; exact q.1.put yl, q.2.set (by omega) (by omega)⟩) ?_
              refine r_aload_n (pc := 99) dX4_readQ_99 rfl ?_
              refine r_iload_n (pc := 100) dX4_readQ_100 rfl ?_
              refine r_iconst (pc := 101) (v := 1) dX4_readQ_101 (by decide) ?_
              refine r_iadd (pc := 102) dX4_readQ_102 ?_
              rw [nI_s, show 5 - (d + 1) + 1 = 5 - d by omega]
              refine r_Vv (pc := 103) (μ' := mX4_readQ) dX4_readQ_103 nX4_80 iX4_readQ vX4_readQ kX4_readQ rfl rfl (rr (by omega) rfl) rfl ⟨Nat.zero_le _, Nat.zero_le _⟩ (fun g' q => ih (by omega) ρ tp tt use bs (adB σ) g' (fun g2 => RdAt ρ tp tt use bs (facB use bs d (adB σ)) g2 ∧ Off ρ 3 g g2) q.1 (fun g2 a b => ⟨a, q.2.tr b⟩)) ?_
              refine r_aload_n (pc := 106) dX4_readQ_106 rfl ?_
              refine r_bipush (pc := 107) (v := 33) dX4_readQ_107 (by decide) ?_
              refine r_Vv (pc := 109) (μ' := mX4_emit) dX4_readQ_109 nX4_68 iX4_emit vX4_emit kX4_emit rfl rfl (rr (by omega) rfl) rfl ⟨Nat.zero_le _, Nat.zero_le _⟩ (fun g' q => ct_Rd_emit q.1 (fun g2 a b => hP g2 a (q.2.tr b))) ?_
              refine r_goto (pc := 112) 178 dX4_readQ_112 (by decide) ?_
              refine r_return (pc := 178) dX4_readQ_178 rfl ⟨Nat.zero_le _, Nat.zero_le _⟩ (fun gE hg => ?_)
              first
              | exact ⟨rfl, hg⟩
              | exact ⟨rfl, hP _ hg.1 hg.2⟩
        · skip
          have k42 : 0 ≤ nameI use (nxB bs σ) := Int32.not_lt.mp c42
          have yl := name_lt k42
          rw [if_pos k42] at hP
          refine r_aload_n (pc := 45) dX4_readQ_45 rfl ?_
          refine r_dup (pc := 46) dX4_readQ_46 rfl ?_
          refine r_getf (pc := 47) (k := 3) dX4_readQ_47 hX4 eX4 (by decide) fX4_27 (fun _ q => q.1.o) rfl ?_
          refine r_iconst (pc := 50) (v := 1) dX4_readQ_50 (by decide) ?_
          refine r_iadd (pc := 51) dX4_readQ_51 ?_
          refine r_putf (pc := 52) (k := 3) (P' := fun g' => RdAt ρ tp tt use bs (adB σ) g' ∧ Off ρ 3 g g') tyX4 dX4_readQ_52 hX4 tyX4_ok nmX4 eX4 (by decide) fX4_27 rfl rfl (fun _ _ => rfl) (fun _ _ => rfl) (Nat.le_of_ble_eq_true rfl) (fun _ q => q.1.o) (fun _ q => ⟨by rw [nI_s]; exact q.1.put yl, q.2.set (by omega) (by omega)⟩) ?_
          refine r_aload_n (pc := 55) dX4_readQ_55 rfl ?_
          refine r_getf (pc := 56) (k := 0) dX4_readQ_56 hX4 eX4 (by decide) fX4_14 (fun _ q => q.1.o) rfl ?_
          refine r_sipush (pc := 59) (v := 10000) dX4_readQ_59 (by decide) ?_
          refine r_aload_n (pc := 62) dX4_readQ_62 rfl ?_
          refine r_getf (pc := 63) (k := 2) dX4_readQ_63 hX4 eX4 (by decide) fX4_23 (fun _ q => q.1.o) rfl ?_
          refine r_iload_n (pc := 66) dX4_readQ_66 rfl ?_
          refine r_Vi (pc := 67) (μ' := mX8_nameOf) dX4_readQ_67 nX4_89 iX8_nameOf vX8_nameOf kX8_nameOf rfl rfl (rr (by omega) rfl) rfl ⟨Nat.zero_le _, Nat.zero_le _⟩ (fun g' q => ct_Text_nameOf q.1.2.2.2.2.1.choose_spec q) ?_
          refine r_iadd (pc := 70) dX4_readQ_70 ?_
          refine r_Vi (pc := 71) (μ' := mX5_add) dX4_readQ_71 nX4_59 iX5_add vX5_add kX5_add rfl rfl (rr (by omega) rfl) rfl ⟨Nat.zero_le _, Nat.zero_le _⟩ (fun g' q => ct_Row_add q.1.2.2.1 (fun g2 a b => hP g2 (q.1.setL a b) (q.2.tr (b.wide (by omega) (by omega))))) ?_
          refine r_pop (pc := 74) dX4_readQ_74 rfl ?_
          refine r_goto (pc := 75) 178 dX4_readQ_75 (by decide) ?_
          refine r_return (pc := 178) dX4_readQ_178 rfl ⟨Nat.zero_le _, Nat.zero_le _⟩ (fun gE hg => ?_)
          first
          | exact ⟨rfl, hg⟩
          | exact ⟨rfl, hP _ hg.1 hg.2⟩
      · skip
        have k17 := b2i_n0.mp c17
        rw [if_pos k17] at hP
        refine r_aload_n (pc := 20) dX4_readQ_20 rfl ?_
        refine r_Vv (pc := 21) (μ' := mX4_readNumber) dX4_readQ_21 nX4_86 iX4_readNumber vX4_readNumber kX4_readNumber rfl rfl (rr (by omega) rfl) rfl ⟨Nat.zero_le _, Nat.zero_le _⟩ (fun g' q => ct_Rd_readNumber q.1 (fun g2 a b => hP g2 a (q.2.tr b))) ?_
        refine r_goto (pc := 24) 178 dX4_readQ_24 (by decide) ?_
        refine r_return (pc := 178) dX4_readQ_178 rfl ⟨Nat.zero_le _, Nat.zero_le _⟩ (fun gE hg => ?_)
        first
        | exact ⟨rfl, hg⟩
        | exact ⟨rfl, hP _ hg.1 hg.2⟩
    · skip
      have k9 := b2i_0.mp c9
      rw [if_pos k9] at hP
      refine r_return (pc := 12) dX4_readQ_12 rfl ⟨Nat.zero_le _, Nat.zero_le _⟩ (fun gE hg => ?_)
      exact ⟨rfl, hP _ hg.1 hg.2⟩
/-- the reader, whatever it read last -/
def RdAny (ρ : Nat) (g : AH) : Prop := ρ < g.1 ∧ ∃ (tv gv : Value) (a f : Int32) (l : List Int32), g.2 ρ = .inr (.inr (3, [.ref (ρ + 1), tv, gv, .int a, .int f])) ∧ RowAt (ρ + 1) 50 l g
theorem RdAny.off {ρ : Nat} {h g : AH} (q : RdAny ρ h) {lo w : Nat} (o : Off lo w h g) (hd : ρ + 3 ≤ lo ∨ lo + w ≤ ρ) : RdAny ρ g := by
  obtain ⟨q1, tv, gv, a, f, l, q2, q3⟩ := q
  exact ⟨by rw [o.1]; exact q1, tv, gv, a, f, l, by rw [o.2 ρ (by omega)]; exact q2, q3.off o (by omega)⟩
/-- all of a tape is read -/
def rdAll (use : Int32) (bs : List Int32) : RS := allB bs (facB use bs 5) (0, true, [])
def rdOk (use : Int32) (bs : List Int32) : Bool := (rdAll use bs).2.1 && decide (bs.length ≤ (rdAll use bs).1)
set_option maxHeartbeats 8000000 in
theorem ct_Rd_read {ρ tp tt : Nat} {use : Int32} {bs l : List Int32} {g : AH} {P' : AH → Prop} (hR : RdAny ρ g) (hB : RowAt tp 50 bs g) (hT : TextAt tt use l g) (h1 : tp + 2 ≤ ρ ∨ ρ + 3 ≤ tp) (h2 : tt + 5 ≤ ρ ∨ ρ + 3 ≤ tt)
    (hP : ∀ g' g2, RdAny ρ g2 → Off ρ 3 g g' → Off tt 5 g' g2 → TextAt tt use (if rdOk use bs = true then (rdAll use bs).2.2 else l) g2 → P' g2) : CV 46 0 0 mX4_read ρ [.ref tp, .ref tt] g (fun v g' => v = some (.int (if rdOk use bs = true then -1 else nI (rdAll use bs).1)) ∧ P' g') := by
  obtain ⟨q1, tv, gv, a, f, l0, q2, q3⟩ := hR
  refine ⟨⟨_, _, _, q1, q2, rfl⟩, ?_⟩
  refine ct_of (by decide) (fun _ _ => Nat.le_of_ble_eq_true rfl) ?_
  dsimp only [pad, ent]
  have hl50 := hB.2.1
  obtain ⟨σ, hσ⟩ : ∃ σ, σ = rdAll use bs := ⟨_, rfl⟩
  have hok : rdOk use bs = (σ.2.1 && decide (bs.length ≤ σ.1)) := by unfold rdOk; rw [← hσ]
  rw [← hσ] at hP ⊢
  have hq : RdC 45 mX4_readT [.int 0] (fun use bs => allB bs (facB use bs 5)) := by
    have := ct_Rd_all (D := 40) (by omega) (ct_Rd_readQ 5 (Nat.le_refl _))
    rw [show nI (5 - 5) = 0 from nI_0] at this
    exact this
  -- as the fields are set
  have pu : ∀ (x y : Value) (a f : Int32) (x' y' : Value) (a' f' : Int32) (g' : AH), (ρ < g'.1 ∧ g'.2 ρ = .inr (.inr (3, [.ref (ρ + 1), x, y, .int a, .int f]))) ∧ RowAt (ρ + 1) 50 l0 g' ∧ Off ρ 3 g g' → (ρ < g'.1 ∧ (hset g' ρ (.inr (.inr (3, [.ref (ρ + 1), x', y', .int a', .int f'])))).2 ρ = .inr (.inr (3, [.ref (ρ + 1), x', y', .int a', .int f']))) ∧ RowAt (ρ + 1) 50 l0 (hset g' ρ (.inr (.inr (3, [.ref (ρ + 1), x', y', .int a', .int f'])))) ∧ Off ρ 3 g (hset g' ρ (.inr (.inr (3, [.ref (ρ + 1), x', y', .int a', .int f'])))) :=
    fun x y a f x' y' a' f' g' q => ⟨⟨q.1.1, hset_same _ _ _⟩, q.2.1.off Off.one (by omega), q.2.2.set (by omega) (by omega)⟩
  refine aw_P (P' := fun g' => (ρ < g'.1 ∧ g'.2 ρ = .inr (.inr (3, [.ref (ρ + 1), tv, gv, .int a, .int f]))) ∧ RowAt (ρ + 1) 50 l0 g' ∧ Off ρ 3 g g') (fun g' e => by subst e; exact ⟨⟨q1, q2⟩, q3, Off.rf _ _ _⟩) ?_
  refine r_aload_n (pc := 0) dX4_read_0 rfl ?_
  refine r_aload_n (pc := 1) dX4_read_1 rfl ?_
  refine r_putf (pc := 2) (k := 1) (P' := fun g' => (ρ < g'.1 ∧ g'.2 ρ = .inr (.inr (3, [.ref (ρ + 1), .ref tp, gv, .int a, .int f]))) ∧ RowAt (ρ + 1) 50 l0 g' ∧ Off ρ 3 g g') tyX4 dX4_read_2 hX4 tyX4_ok nmX4 eX4 (by decide) fX4_20 rfl rfl (fun _ _ => rfl) (fun _ _ => rfl) (Nat.le_of_ble_eq_true rfl) (fun _ q => q.1) (fun g' q => pu _ _ _ _ _ _ _ _ g' q) ?_
  refine r_aload_n (pc := 5) dX4_read_5 rfl ?_
  refine r_aload_n (pc := 6) dX4_read_6 rfl ?_
  refine r_putf (pc := 7) (k := 2) (P' := fun g' => (ρ < g'.1 ∧ g'.2 ρ = .inr (.inr (3, [.ref (ρ + 1), .ref tp, .ref tt, .int a, .int f]))) ∧ RowAt (ρ + 1) 50 l0 g' ∧ Off ρ 3 g g') tyX4 dX4_read_7 hX4 tyX4_ok nmX4 eX4 (by decide) fX4_23 rfl rfl (fun _ _ => rfl) (fun _ _ => rfl) (Nat.le_of_ble_eq_true rfl) (fun _ q => q.1) (fun g' q => pu _ _ _ _ _ _ _ _ g' q) ?_
  refine r_aload_n (pc := 10) dX4_read_10 rfl ?_
  refine r_iconst (pc := 11) (v := 0) dX4_read_11 (by decide) ?_
  refine r_putf (pc := 12) (k := 3) (P' := fun g' => (ρ < g'.1 ∧ g'.2 ρ = .inr (.inr (3, [.ref (ρ + 1), .ref tp, .ref tt, .int 0, .int f]))) ∧ RowAt (ρ + 1) 50 l0 g' ∧ Off ρ 3 g g') tyX4 dX4_read_12 hX4 tyX4_ok nmX4 eX4 (by decide) fX4_27 rfl rfl (fun _ _ => rfl) (fun _ _ => rfl) (Nat.le_of_ble_eq_true rfl) (fun _ q => q.1) (fun g' q => pu _ _ _ _ _ _ _ _ g' q) ?_
  refine r_aload_n (pc := 15) dX4_read_15 rfl ?_
  refine r_iconst (pc := 16) (v := 1) dX4_read_16 (by decide) ?_
  refine r_putf (pc := 17) (k := 4) (P' := fun g' => (ρ < g'.1 ∧ g'.2 ρ = .inr (.inr (3, [.ref (ρ + 1), .ref tp, .ref tt, .int 0, .int 1]))) ∧ RowAt (ρ + 1) 50 l0 g' ∧ Off ρ 3 g g') tyX4 dX4_read_17 hX4 tyX4_ok nmX4 eX4 (by decide) fX4_31 rfl rfl (fun _ _ => rfl) (fun _ _ => rfl) (Nat.le_of_ble_eq_true rfl) (fun _ q => q.1) (fun g' q => pu _ _ _ _ _ _ _ _ g' q) ?_
  refine r_aload_n (pc := 20) dX4_read_20 rfl ?_
  refine r_getf (pc := 21) (k := 0) dX4_read_21 hX4 eX4 (by decide) fX4_14 (fun _ q => q.1) rfl ?_
  refine r_Vv (pc := 24) (μ' := mX5_clear) dX4_read_24 nX4_35 iX5_clear vX5_clear kX5_clear rfl rfl (rr (by omega) rfl) rfl ⟨Nat.zero_le _, Nat.zero_le _⟩ (fun g' q => ct_Row_clear (P' := fun g2 => RdAt ρ tp tt use bs (0, true, []) g2 ∧ Off ρ 3 g g2) q.2.1 (fun g2 x y => by
        have o2 := q.2.2.tr (y.wide (by omega) (by omega))
        exact ⟨⟨by rw [y.1]; exact q.1.1, by rw [y.2 ρ (by omega)]; exact q.1.2, x, hB.off o2 (by omega), ⟨l, hT.off o2 (by omega)⟩, Nat.zero_le _, h1, h2⟩, o2⟩)) ?_
  refine r_aload_n (pc := 27) dX4_read_27 rfl ?_
  refine r_iconst (pc := 28) (v := 0) dX4_read_28 (by decide) ?_
  refine r_Vv (pc := 29) (μ' := mX4_readT) dX4_read_29 nX4_38 iX4_readT vX4_readT kX4_readT rfl rfl (rr (by omega) rfl) rfl ⟨Nat.zero_le _, Nat.zero_le _⟩ (fun g' q => hq ρ tp tt use bs _ g' (fun g2 => RdAt ρ tp tt use bs σ g2 ∧ Off ρ 3 g g2) q.1 (fun g2 x y => ⟨by rw [hσ]; exact x, q.2.tr y⟩)) ?_
  refine r_aload_n (pc := 32) dX4_read_32 rfl ?_
  refine r_getf (pc := 33) (k := 4) dX4_read_33 hX4 eX4 (by decide) fX4_31 (fun _ q => q.1.o) rfl ?_
  refine r_if_eq (pc := 36) 53 dX4_read_36 (by decide) (fun c36 => ?_) (fun c36 => ?_)
  · skip
    have e0 : rdOk use bs = false := by rw [hok, b2i_0.mp c36, Bool.false_and]
    refine r_aload_n (pc := 53) dX4_read_53 rfl ?_
    refine r_getf (pc := 54) (k := 3) dX4_read_54 hX4 eX4 (by decide) fX4_27 (fun _ q => q.1.o) rfl ?_
    refine r_ireturn (pc := 57) (ty := .int) dX4_read_57 rfl rfl ⟨Nat.zero_le _, Nat.zero_le _⟩ (fun gE hg => ?_)
    rw [e0] at hP ⊢
    rw [if_neg Bool.false_ne_true] at hP ⊢
    exact ⟨rfl, hP gE gE ⟨hg.1.1, _, _, _, _, _, hg.1.2.1, hg.1.2.2.1⟩ hg.2 (Off.rf _ _ _) (hT.off hg.2 (by omega))⟩
  · skip
    have k36 := b2i_n0.mp c36
    refine aw_P (P' := fun g' => σ.1 ≤ bs.length ∧ (RdAt ρ tp tt use bs σ g' ∧ Off ρ 3 g g')) (fun g' q => ⟨q.1.2.2.2.2.2.1, q⟩) (aw_pr fun hσl => ?_)
    refine r_aload_n (pc := 39) dX4_read_39 rfl ?_
    refine r_getf (pc := 40) (k := 3) dX4_read_40 hX4 eX4 (by decide) fX4_27 (fun _ q => q.1.o) rfl ?_
    refine r_aload_n (pc := 43) dX4_read_43 rfl ?_
    refine r_getf (pc := 44) (k := 1) dX4_read_44 hX4 eX4 (by decide) fX4_20 (fun _ q => q.1.o) rfl ?_
    refine r_Vi (pc := 47) (μ' := mX5_length) dX4_read_47 nX4_41 iX5_length vX5_length kX5_length rfl rfl (rr (by omega) rfl) rfl ⟨Nat.zero_le _, Nat.zero_le _⟩ (fun g' q => ct_Row_length q.1.2.2.2.1 q) ?_
    refine r_icmp_ge (pc := 50) 58 dX4_read_50 (by decide) (fun c50 => ?_) (fun c50 => ?_)
    · skip
      have e1 : rdOk use bs = true := by
        rw [hok, k36, Bool.true_and]
        refine decide_eq_true (Decidable.byContradiction fun z => ?_)
        have := fa_le.mp c50
        rw [nI_T (by omega), nI_T (by omega)] at this
        omega
      rw [e1] at hP ⊢
      rw [if_pos rfl] at hP ⊢
      refine r_aload_n (pc := 58) dX4_read_58 rfl ?_
      refine r_aload_n (pc := 59) dX4_read_59 rfl ?_
      refine r_getf (pc := 60) (k := 0) dX4_read_60 hX4 eX4 (by decide) fX4_14 (fun _ q => q.1.o) rfl ?_
      refine r_Vv (pc := 63) (μ' := mX8_takeSteps) dX4_read_63 nX4_45 iX8_takeSteps vX8_takeSteps kX8_takeSteps rfl rfl (rr (by omega) rfl) rfl ⟨Nat.zero_le _, Nat.zero_le _⟩ (fun g' q => ct_Text_takeSteps (hT.off q.2 (by omega)) q.1.2.2.1 (by omega) q.1.2.2.1.2.1 (fun g2 x y => hP g' g2 ⟨by rw [y.1]; exact q.1.1, _, _, _, _, _, by rw [y.2 ρ (by omega)]; exact q.1.2.1, q.1.2.2.1.off y (by omega)⟩ q.2 y x)) ?_
      refine r_iconst (pc := 66) (v := (-1)) dX4_read_66 (by decide) ?_
      refine r_ireturn (pc := 67) (ty := .int) dX4_read_67 rfl rfl ⟨Nat.zero_le _, Nat.zero_le _⟩ (fun gE hg => ?_)
      exact ⟨rfl, hg⟩
    · skip
      have e0 : rdOk use bs = false := by
        rw [hok, k36, Bool.true_and]
        refine decide_eq_false fun z => c50 (fa_le.mpr ?_)
        rw [nI_T (by omega), nI_T (by omega)]; omega
      refine r_aload_n (pc := 53) dX4_read_53 rfl ?_
      refine r_getf (pc := 54) (k := 3) dX4_read_54 hX4 eX4 (by decide) fX4_27 (fun _ q => q.1.o) rfl ?_
      refine r_ireturn (pc := 57) (ty := .int) dX4_read_57 rfl rfl ⟨Nat.zero_le _, Nat.zero_le _⟩ (fun gE hg => ?_)
      rw [e0] at hP ⊢
      rw [if_neg Bool.false_ne_true] at hP ⊢
      exact ⟨rfl, hP gE gE ⟨hg.1.1, _, _, _, _, _, hg.1.2.1, hg.1.2.2.1⟩ hg.2 (Off.rf _ _ _) (hT.off hg.2 (by omega))⟩
