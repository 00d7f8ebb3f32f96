/-! THE WHOLE (OneGoCeiling): ofCell, count, law, whose -/
section MethF
variable {o : Nat} {K K9 R : CK} {hs hs9 : List (Nat × Nat)} {lD lL tp wa hd er : List Int32} {z im : Int32} {k : NS} {bt : Nat → Int32} {sh : Nat → List Int32} {h g : AH} {Q : Option Value → AH → Prop} {P' : AH → Prop}
/-- what is told of a CELL -/
def ocI (K : CK) (lD : List Int32) (c : Nat) (b : Int32) : Int32 := if b = 0 then iI (kW K (c / kSt K) (c % kSt K)) else if b = 1 then nI (kV K (c / kSt K) (c % kSt K)) else if b = 2 then nI (drL lD (kHe K) (c / kSt K) (c % kSt K)) else b2i (seamB K (drL lD (kHe K)) (c / kSt K) (c % kSt K) (c % kSt K) (c % kSt K + 1) 0)
def celB (K : CK) (a : Int32) : Bool := decide (0 ≤ a.toInt ∧ a.toInt < kRo K * kSt K)
theorem rem_nI {a d : Nat} (ha : a ≤ 4000) (h0 : 0 < d) (hd : d ≤ 4000) : nI a % nI d = nI (a % d) := by rw [← i32_rem]; exact pk_rem (by omega) h0 (by omega)
theorem div_nI {a d : Nat} (ha : a ≤ 4000) (h0 : 0 < d) (hd : d ≤ 4000) : nI a / nI d = nI (a / d) := pk_div (by omega) h0 (by omega)
set_option maxHeartbeats 8000000 in
theorem ct_G_ofCell {a b : Int32} (q : GA o K hs lD lL tp wa z k bt sh hd er im g) (ok : KOk K) (wb : WB K) (e1 : (celB K a && wiB b 0 3) = false → ∀ g', GA o K hs lD lL tp wa z k bt sh hd (errL er 1) im g' → Off o 95 g g' → Q (some (.int (-1000000000 - 1))) g') (hP : ∀ c, a = nI c → c < kRo K * kSt K → wiB b 0 3 = true → ∀ g', GA o K hs lD lL tp wa z k bt sh hd er im g' → Off o 95 g g' → Q (some (.int (ocI K lD c b))) g') : CV 10 0 0 mX11_ofCell o [.int a, .int b] g Q := by
  refine ⟨q.V, ?_⟩
  refine ct_of (by decide) (fun _ _ => Nat.le_of_ble_eq_true rfl) ?_
  dsimp only [pad, ent]
  have hst : 1 ≤ kSt K ∧ kSt K ≤ 6 := ok.2.1
  have hro : 1 ≤ kRo K ∧ kRo K ≤ 6 := ok.1
  have hhe : kHe K ≤ 9 := ok.2.2.1
  have hm36 : kRo K * kSt K ≤ 6 * 6 := Nat.mul_le_mul (by omega) (by omega)
  have hTs : (nI K.2.1).toInt = (kSt K : Int) := nI_T (n := kSt K) (by omega)
  have hns : ¬ nI K.2.1 ≤ 0 := fun x => by have := fa_le.mp x; rw [t0] at this; omega
  have hlen : (tab K.1 K.2.1 fun r s => iI (K.2.2.2.2.2.2.2.2.1 r s)).length = kRo K * kSt K := tab_len
  have hcel : hasL (tab K.1 K.2.1 fun r s => iI (K.2.2.2.2.2.2.2.2.1 r s)) a = celB K a := by unfold hasL celB; rw [hlen, Int.natCast_mul]
  refine aw_P (P' := fun g' => GA o K hs lD lL tp wa z k bt sh hd er im g' ∧ Off o 95 g g') (fun g' e => by subst e; exact ⟨q, Off.rf _ _ _⟩) ?_
  refine r_aload_n (pc := 0) dX11_ofCell_0 rfl ?_
  refine r_getf (pc := 1) (k := 0) dX11_ofCell_1 hX11 eX11 (by decide) fX11_10 (fun _ q => q.1.oo) rfl ?_
  refine r_getf (pc := 4) (k := 0) dX11_ofCell_4 hX7 eX7 (by decide) fX11_92 (fun _ q => q.1.s) rfl ?_
  refine r_astore_n (pc := 7) dX11_ofCell_7 rfl (Nat.le_of_ble_eq_true rfl) rfl ?_
  dsimp only [lset]
  refine r_aload_n (pc := 8) dX11_ofCell_8 rfl ?_
  refine r_iload_n (pc := 9) dX11_ofCell_9 rfl ?_
  refine r_Vi (pc := 10) (μ' := mX0_isCell) dX11_ofCell_10 nX11_107 iX0_isCell vX0_isCell kX0_isCell rfl rfl (rr (by omega) rfl) rfl ⟨Nat.zero_le _, Nat.zero_le _⟩ (fun g' q => ct_Ceil_isCell (q.1.Ci : CeilI _ _ _ _ _ _ _ _ _ _ _ _) q) ?_
  rw [hcel]
  refine r_if_eq (pc := 13) 25 dX11_ofCell_13 (by decide) (fun c13 => ?_) (fun c13 => ?_)
  · skip
    have k1 := b2i_0.mp c13
    refine r_aload_n (pc := 25) dX11_ofCell_25 rfl ?_
    refine r_iconst (pc := 26) (v := 1) dX11_ofCell_26 (by decide) ?_
    refine r_Vi (pc := 27) (μ' := mX11_error) dX11_ofCell_27 nX11_88 iX11_error vX11_error kX11_error rfl rfl (rr (by omega) rfl) rfl ⟨Nat.zero_le _, Nat.zero_le _⟩ (fun g' q => ct_G_error (P' := fun g2 => Q (some (.int (-1000000000 - 1))) g2) q.1 (fun g2 x y => e1 (by first | (rw [k1]; rfl) | (rw [k1, k2]; rfl)) g2 x (q.2.tr y))) ?_
    refine r_ireturn (pc := 30) (ty := .int) dX11_ofCell_30 rfl rfl ⟨Nat.zero_le _, Nat.zero_le _⟩ (fun gE hg => ?_)
    exact hg
  · skip
    have k1 := b2i_n0.mp c13
    refine r_iload_n (pc := 16) dX11_ofCell_16 rfl ?_
    refine r_iconst (pc := 17) (v := 0) dX11_ofCell_17 (by decide) ?_
    refine r_iconst (pc := 18) (v := 3) dX11_ofCell_18 (by decide) ?_
    refine r_Sp (pc := 19) (μ' := mX11_within) dX11_ofCell_19 nX11_84 sX11_within kX11_within rfl rfl (rr (by omega) rfl) rfl ⟨Nat.zero_le _, Nat.zero_le _⟩ (fun h => ct_G_within h) ?_
    refine r_if_ne (pc := 22) 31 dX11_ofCell_22 (by decide) (fun c22 => ?_) (fun c22 => ?_)
    · skip
      have k2 := b2i_n0.mp c22
      have k3 := of_decide_eq_true k1
      obtain ⟨c, hc1, hc2⟩ : ∃ c, a = nI c ∧ c < kRo K * kSt K := ⟨a.toInt.toNat, (nI_tn (by omega) (by omega)).symm, by have : (kRo K * kSt K : Int) = ((kRo K * kSt K : Nat) : Int) := (Int.natCast_mul _ _).symm; omega⟩
      have hr : c / kSt K < kRo K := Nat.div_lt_of_lt_mul (by rw [Nat.mul_comm]; exact hc2)
      have hs2 : c % kSt K < kSt K := Nat.mod_lt _ (by omega)
      have h7 := hP c hc1 hc2 k2
      refine r_aload_n (pc := 31) dX11_ofCell_31 rfl ?_
      refine r_iload_n (pc := 32) dX11_ofCell_32 rfl ?_
      refine r_Vi (pc := 33) (μ' := mX0_rowOf) dX11_ofCell_33 nX11_111 iX0_rowOf vX0_rowOf kX0_rowOf rfl rfl (rr (by omega) rfl) rfl ⟨Nat.zero_le _, Nat.zero_le _⟩ (fun g' q => ct_Ceil_rowOf (q.1.Ci : CeilI _ _ _ _ _ _ _ _ _ _ _ _) q) ?_
      rw [if_neg hns, hc1, show nI c / nI K.2.1 = nI (c / kSt K) from div_nI (d := kSt K) (by omega) (by omega) (by omega)]
      refine r_istore (pc := 36) dX11_ofCell_36 (Nat.le_of_ble_eq_true rfl) rfl ?_
      dsimp only [lset]
      refine r_aload_n (pc := 38) dX11_ofCell_38 rfl ?_
      refine r_iload_n (pc := 39) dX11_ofCell_39 rfl ?_
      refine r_Vi (pc := 40) (μ' := mX0_stripOf) dX11_ofCell_40 nX11_114 iX0_stripOf vX0_stripOf kX0_stripOf rfl rfl (rr (by omega) rfl) rfl ⟨Nat.zero_le _, Nat.zero_le _⟩ (fun g' q => ct_Ceil_stripOf (q.1.Ci : CeilI _ _ _ _ _ _ _ _ _ _ _ _) q) ?_
      rw [if_neg hns, show nI c % nI K.2.1 = nI (c % kSt K) from rem_nI (d := kSt K) (by omega) (by omega) (by omega)]
      refine r_istore (pc := 43) dX11_ofCell_43 (Nat.le_of_ble_eq_true rfl) rfl ?_
      dsimp only [lset]
      refine r_iload_n (pc := 45) dX11_ofCell_45 rfl ?_
      by_cases s46_0 : b = 0
      · skip
        refine r_tableAt (pc := 46) 72 0 dX11_ofCell_46 (by rw [s46_0]; decide) (by decide) rfl (by decide) ?_
        rw [show ocI K lD c b = iI (kW K (c / kSt K) (c % kSt K)) by rw [s46_0]; rfl] at h7
        refine r_aload_n (pc := 72) dX11_ofCell_72 rfl ?_
        refine r_iload (pc := 73) dX11_ofCell_73 rfl ?_
        refine r_iload (pc := 75) dX11_ofCell_75 rfl ?_
        refine r_Vi (pc := 77) (μ' := mX0_whenAt) dX11_ofCell_77 nX11_117 iX0_whenAt vX0_whenAt kX0_whenAt rfl rfl (rr (by omega) rfl) rfl ⟨Nat.zero_le _, Nat.zero_le _⟩ (fun g' q => ct_CK_whenAt (q.1.Ci) ok hr (by omega) q) ?_
        rw [show wE K (c / kSt K) (c % kSt K) = kW K (c / kSt K) (c % kSt K) from if_pos hs2]
        refine r_ireturn (pc := 80) (ty := .int) dX11_ofCell_80 rfl rfl ⟨Nat.zero_le _, Nat.zero_le _⟩ (fun gE hg => ?_)
        exact h7 _ hg.1 hg.2
      by_cases s46_1 : b = 1
      · skip
        refine r_tableAt (pc := 46) 81 1 dX11_ofCell_46 (by rw [s46_1]; decide) (by decide) rfl (by decide) ?_
        rw [show ocI K lD c b = nI (kV K (c / kSt K) (c % kSt K)) by rw [s46_1]; rfl] at h7
        refine r_aload_n (pc := 81) dX11_ofCell_81 rfl ?_
        refine r_iload (pc := 82) dX11_ofCell_82 rfl ?_
        refine r_iload (pc := 84) dX11_ofCell_84 rfl ?_
        refine r_Vi (pc := 86) (μ' := mX0_whiteAt) dX11_ofCell_86 nX11_120 iX0_whiteAt vX0_whiteAt kX0_whiteAt rfl rfl (rr (by omega) rfl) rfl ⟨Nat.zero_le _, Nat.zero_le _⟩ (fun g' q => ct_CK_whiteAt (q.1.Ci) ok hr (by omega) q) ?_
        rw [show vE K (c / kSt K) (c % kSt K) = kV K (c / kSt K) (c % kSt K) from if_pos hs2]
        refine r_ireturn (pc := 89) (ty := .int) dX11_ofCell_89 rfl rfl ⟨Nat.zero_le _, Nat.zero_le _⟩ (fun gE hg => ?_)
        exact h7 _ hg.1 hg.2
      by_cases s46_2 : b = 2
      · skip
        refine r_tableAt (pc := 46) 90 2 dX11_ofCell_46 (by rw [s46_2]; decide) (by decide) rfl (by decide) ?_
        rw [show ocI K lD c b = nI (drL lD (kHe K) (c / kSt K) (c % kSt K)) by rw [s46_2]; rfl] at h7
        refine r_aload_n (pc := 90) dX11_ofCell_90 rfl ?_
        refine r_getf (pc := 91) (k := 3) dX11_ofCell_91 hX11 eX11 (by decide) fX11_38 (fun _ q => q.1.oo) rfl ?_
        refine r_iload (pc := 94) dX11_ofCell_94 rfl ?_
        refine r_iload (pc := 96) dX11_ofCell_96 rfl ?_
        refine r_aload_n (pc := 98) dX11_ofCell_98 rfl ?_
        refine r_Vi (pc := 99) (μ' := mX0_heat) dX11_ofCell_99 nX11_123 iX0_heat vX0_heat kX0_heat rfl rfl (rr (by omega) rfl) rfl ⟨Nat.zero_le _, Nat.zero_le _⟩ (fun g' q => ct_Ceil_heat (q.1.Ci : CeilI _ _ _ _ _ _ _ _ _ _ _ _) q) ?_
        refine r_Vi (pc := 102) (μ' := mX2_driesOf) dX11_ofCell_102 nX11_127 iX2_driesOf vX2_driesOf kX2_driesOf rfl rfl (rr (by omega) rfl) rfl ⟨Nat.zero_le _, Nat.zero_le _⟩ (fun g' q => ct_Eye_driesOf (t := kHe K) (P' := fun g2 => GA o K hs lD lL tp wa z k bt sh hd er im g2 ∧ Off o 95 g g2) q.1.Ey (by omega) (by omega) (by omega) (fun g2 x y => ⟨q.1.eye x y, q.2.tr (eyO y)⟩)) ?_
        refine r_ireturn (pc := 105) (ty := .int) dX11_ofCell_105 rfl rfl ⟨Nat.zero_le _, Nat.zero_le _⟩ (fun gE hg => ?_)
        exact h7 _ hg.1 hg.2
      have t46_0 : ¬ (b).toInt = 0 := fun q => s46_0 (Int32.toInt_inj.mp q)
      have t46_1 : ¬ (b).toInt = 1 := fun q => s46_1 (Int32.toInt_inj.mp q)
      have t46_2 : ¬ (b).toInt = 2 := fun q => s46_2 (Int32.toInt_inj.mp q)
      refine r_tableOut (pc := 46) 106 dX11_ofCell_46 (by omega) (by decide) ?_
      rw [show ocI K lD c b = b2i (seamB K (drL lD (kHe K)) (c / kSt K) (c % kSt K) (c % kSt K) (c % kSt K + 1) 0) by unfold ocI; rw [if_neg s46_0, if_neg s46_1, if_neg s46_2]] at h7
      refine r_aload_n (pc := 106) dX11_ofCell_106 rfl ?_
      refine r_getf (pc := 107) (k := 3) dX11_ofCell_107 hX11 eX11 (by decide) fX11_38 (fun _ q => q.1.oo) rfl ?_
      refine r_aload_n (pc := 110) dX11_ofCell_110 rfl ?_
      refine r_iload (pc := 111) dX11_ofCell_111 rfl ?_
      refine r_iload (pc := 113) dX11_ofCell_113 rfl ?_
      refine r_iload (pc := 115) dX11_ofCell_115 rfl ?_
      refine r_iload (pc := 117) dX11_ofCell_117 rfl ?_
      refine r_iconst (pc := 119) (v := 1) dX11_ofCell_119 (by decide) ?_
      refine r_iadd (pc := 120) dX11_ofCell_120 ?_
      rw [show (1 : Int32) = nI 1 from rfl, nI_add]
      refine r_iconst (pc := 121) (v := 0) dX11_ofCell_121 (by decide) ?_
      rw [show (0 : Int32) = nI 0 from rfl]
      refine r_Vi (pc := 122) (μ' := mX2_isSeam) dX11_ofCell_122 nX11_131 iX2_isSeam vX2_isSeam kX2_isSeam rfl rfl (rr (by omega) rfl) rfl ⟨Nat.zero_le _, Nat.zero_le _⟩ (fun g' q => ct_Eye_isSeam (P' := fun g2 => GA o K hs lD lL tp wa z k bt sh hd er im g2 ∧ Off o 95 g g2) q.1.ec ok wb hr (by omega) (by omega) (by omega) (by omega) (by omega) (fun g2 x y => ⟨q.1.eye x.1 y, q.2.tr (eyO y)⟩)) ?_
      refine r_if_eq (pc := 125) 132 dX11_ofCell_125 (by decide) (fun c125 => ?_) (fun c125 => ?_)
      · skip
        have k9 := b2i_0.mp c125
        rw [k9] at h7
        refine r_iconst (pc := 132) (v := 0) dX11_ofCell_132 (by decide) ?_
        refine r_ireturn (pc := 133) (ty := .int) dX11_ofCell_133 rfl rfl ⟨Nat.zero_le _, Nat.zero_le _⟩ (fun gE hg => ?_)
        exact h7 _ hg.1 hg.2
      · skip
        have k9 := b2i_n0.mp c125
        rw [k9] at h7
        refine r_iconst (pc := 128) (v := 1) dX11_ofCell_128 (by decide) ?_
        refine r_goto (pc := 129) 133 dX11_ofCell_129 (by decide) ?_
        refine r_ireturn (pc := 133) (ty := .int) dX11_ofCell_133 rfl rfl ⟨Nat.zero_le _, Nat.zero_le _⟩ (fun gE hg => ?_)
        exact h7 _ hg.1 hg.2
    · skip
      have k2 := b2i_0.mp c22
      refine r_aload_n (pc := 25) dX11_ofCell_25 rfl ?_
      refine r_iconst (pc := 26) (v := 1) dX11_ofCell_26 (by decide) ?_
      refine r_Vi (pc := 27) (μ' := mX11_error) dX11_ofCell_27 nX11_88 iX11_error vX11_error kX11_error rfl rfl (rr (by omega) rfl) rfl ⟨Nat.zero_le _, Nat.zero_le _⟩ (fun g' q => ct_G_error (P' := fun g2 => Q (some (.int (-1000000000 - 1))) g2) q.1 (fun g2 x y => e1 (by first | (rw [k1]; rfl) | (rw [k1, k2]; rfl)) g2 x (q.2.tr y))) ?_
      refine r_ireturn (pc := 30) (ty := .int) dX11_ofCell_30 rfl rfl ⟨Nat.zero_le _, Nat.zero_le _⟩ (fun gE hg => ?_)
      exact hg
/-- what is counted -/
def cnI (K : CK) (hs : List (Nat × Nat)) (tp wa hd : List Int32) (z a : Int32) : Int32 := if a = 0 then nI (kRo K * kSt K) else if a = 1 then nI hs.length else if a = 2 then nI (kMi K) else if a = 3 then nI (cntL (tab K.1 K.2.1 fun r s => iI (K.2.2.2.2.2.2.2.2.1 r s)) (kRo K * kSt K)) else if a = 4 then nI K.2.2.2.2.1 else if a = 5 then nI K.2.2.2.2.2.1 else if a = 6 then nI K.2.2.2.2.2.2.1 else if a = 7 then nI (kHe K) else if a = 8 then nI tp.length else if a = 9 then nI wa.length else if a = 10 then nI hd.length else z
set_option maxHeartbeats 8000000 in
theorem ct_G_count {a : Int32} (q : GA o K hs lD lL tp wa z k bt sh hd er im g) (e1 : wiB a 0 11 = false → ∀ g', GA o K hs lD lL tp wa z k bt sh hd (errL er 1) im g' → Off o 95 g g' → Q (some (.int (-1000000000 - 1))) g') (hP : wiB a 0 11 = true → ∀ g', GA o K hs lD lL tp wa z k bt sh hd er im g' → Off o 95 g g' → Q (some (.int (cnI K hs tp wa hd z a))) g') : CV 4 0 0 mX11_count o [.int a] g Q := by
  refine ⟨q.V, ?_⟩
  refine ct_of (by decide) (fun _ _ => Nat.le_of_ble_eq_true rfl) ?_
  dsimp only [pad, ent]
  have hlen : (tab K.1 K.2.1 fun r s => iI (K.2.2.2.2.2.2.2.2.1 r s)).length = kRo K * kSt K := tab_len
  have hlenh : (hs.map fun q => nI q.1).length = hs.length := List.length_map _
  refine aw_P (P' := fun g' => GA o K hs lD lL tp wa z k bt sh hd er im g' ∧ Off o 95 g g') (fun g' e => by subst e; exact ⟨q, Off.rf _ _ _⟩) ?_
  refine r_iload_n (pc := 0) dX11_count_0 rfl ?_
  by_cases s1_0 : a = 0
  · skip
    refine r_tableAt (pc := 1) 64 0 dX11_count_1 (by rw [s1_0]; decide) (by decide) rfl (by decide) ?_
    subst s1_0
    have h7 := hP (by decide)
    refine r_aload_n (pc := 64) dX11_count_64 rfl ?_
    refine r_getf (pc := 65) (k := 0) dX11_count_65 hX11 eX11 (by decide) fX11_10 (fun _ q => q.1.oo) rfl ?_
    refine r_getf (pc := 68) (k := 0) dX11_count_68 hX7 eX7 (by decide) fX11_92 (fun _ q => q.1.s) rfl ?_
    refine r_Vi (pc := 71) (μ' := mX0_cells) dX11_count_71 nX11_372 iX0_cells vX0_cells kX0_cells rfl rfl (rr (by decide) rfl) rfl ⟨Nat.zero_le _, Nat.zero_le _⟩ (fun g' q => ct_Ceil_cells (q.1.Ci : CeilI _ _ _ _ _ _ _ _ _ _ _ _) q) ?_
    rw [hlen]
    refine r_ireturn (pc := 74) (ty := .int) dX11_count_74 rfl rfl ⟨Nat.zero_le _, Nat.zero_le _⟩ (fun gE hg => ?_)
    exact h7 _ hg.1 hg.2
  by_cases s1_1 : a = 1
  · skip
    refine r_tableAt (pc := 1) 75 1 dX11_count_1 (by rw [s1_1]; decide) (by decide) rfl (by decide) ?_
    subst s1_1
    have h7 := hP (by decide)
    refine r_aload_n (pc := 75) dX11_count_75 rfl ?_
    refine r_getf (pc := 76) (k := 0) dX11_count_76 hX11 eX11 (by decide) fX11_10 (fun _ q => q.1.oo) rfl ?_
    refine r_getf (pc := 79) (k := 1) dX11_count_79 hX7 eX7 (by decide) fX11_140 (fun _ q => q.1.s) rfl ?_
    refine r_Vi (pc := 82) (μ' := mX1_size) dX11_count_82 nX11_226 iX1_size vX1_size kX1_size rfl rfl (rr (by decide) rfl) rfl ⟨Nat.zero_le _, Nat.zero_le _⟩ (fun g' q => ct_Crew_size q.1.W q) ?_
    rw [hlenh]
    refine r_ireturn (pc := 85) (ty := .int) dX11_count_85 rfl rfl ⟨Nat.zero_le _, Nat.zero_le _⟩ (fun gE hg => ?_)
    exact h7 _ hg.1 hg.2
  by_cases s1_2 : a = 2
  · skip
    refine r_tableAt (pc := 1) 86 2 dX11_count_1 (by rw [s1_2]; decide) (by decide) rfl (by decide) ?_
    subst s1_2
    have h7 := hP (by decide)
    refine r_aload_n (pc := 86) dX11_count_86 rfl ?_
    refine r_getf (pc := 87) (k := 0) dX11_count_87 hX11 eX11 (by decide) fX11_10 (fun _ q => q.1.oo) rfl ?_
    refine r_getf (pc := 90) (k := 0) dX11_count_90 hX7 eX7 (by decide) fX11_92 (fun _ q => q.1.s) rfl ?_
    refine r_Vi (pc := 93) (μ' := mX0_minute) dX11_count_93 nX11_220 iX0_minute vX0_minute kX0_minute rfl rfl (rr (by decide) rfl) rfl ⟨Nat.zero_le _, Nat.zero_le _⟩ (fun g' q => ct_Ceil_minute (q.1.Ci : CeilI _ _ _ _ _ _ _ _ _ _ _ _) q) ?_
    refine r_ireturn (pc := 96) (ty := .int) dX11_count_96 rfl rfl ⟨Nat.zero_le _, Nat.zero_le _⟩ (fun gE hg => ?_)
    exact h7 _ hg.1 hg.2
  by_cases s1_3 : a = 3
  · skip
    refine r_tableAt (pc := 1) 97 3 dX11_count_1 (by rw [s1_3]; decide) (by decide) rfl (by decide) ?_
    subst s1_3
    have h7 := hP (by decide)
    refine r_aload_n (pc := 97) dX11_count_97 rfl ?_
    refine r_getf (pc := 98) (k := 0) dX11_count_98 hX11 eX11 (by decide) fX11_10 (fun _ q => q.1.oo) rfl ?_
    refine r_getf (pc := 101) (k := 0) dX11_count_101 hX7 eX7 (by decide) fX11_92 (fun _ q => q.1.s) rfl ?_
    refine r_Vi (pc := 104) (μ' := mX0_rolledCells) dX11_count_104 nX11_375 iX0_rolledCells vX0_rolledCells kX0_rolledCells rfl rfl (rr (by decide) rfl) rfl ⟨Nat.zero_le _, Nat.zero_le _⟩ (fun g' q => ct_Ceil_rolledCells (q.1.Ci : CeilI _ _ _ _ _ _ _ _ _ _ _ _) q) ?_
    rw [hlen]
    refine r_ireturn (pc := 107) (ty := .int) dX11_count_107 rfl rfl ⟨Nat.zero_le _, Nat.zero_le _⟩ (fun gE hg => ?_)
    exact h7 _ hg.1 hg.2
  by_cases s1_4 : a = 4
  · skip
    refine r_tableAt (pc := 1) 108 4 dX11_count_1 (by rw [s1_4]; decide) (by decide) rfl (by decide) ?_
    subst s1_4
    have h7 := hP (by decide)
    refine r_aload_n (pc := 108) dX11_count_108 rfl ?_
    refine r_getf (pc := 109) (k := 0) dX11_count_109 hX11 eX11 (by decide) fX11_10 (fun _ q => q.1.oo) rfl ?_
    refine r_getf (pc := 112) (k := 0) dX11_count_112 hX7 eX7 (by decide) fX11_92 (fun _ q => q.1.s) rfl ?_
    refine r_Vi (pc := 115) (μ' := mX0_left) dX11_count_115 nX11_378 iX0_left vX0_left kX0_left rfl rfl (rr (by decide) rfl) rfl ⟨Nat.zero_le _, Nat.zero_le _⟩ (fun g' q => ct_Ceil_left (q.1.Ci : CeilI _ _ _ _ _ _ _ _ _ _ _ _) q) ?_
    refine r_ireturn (pc := 118) (ty := .int) dX11_count_118 rfl rfl ⟨Nat.zero_le _, Nat.zero_le _⟩ (fun gE hg => ?_)
    exact h7 _ hg.1 hg.2
  by_cases s1_5 : a = 5
  · skip
    refine r_tableAt (pc := 1) 119 5 dX11_count_1 (by rw [s1_5]; decide) (by decide) rfl (by decide) ?_
    subst s1_5
    have h7 := hP (by decide)
    refine r_aload_n (pc := 119) dX11_count_119 rfl ?_
    refine r_getf (pc := 120) (k := 0) dX11_count_120 hX11 eX11 (by decide) fX11_10 (fun _ q => q.1.oo) rfl ?_
    refine r_getf (pc := 123) (k := 0) dX11_count_123 hX7 eX7 (by decide) fX11_92 (fun _ q => q.1.s) rfl ?_
    refine r_Vi (pc := 126) (μ' := mX0_canWhite) dX11_count_126 nX11_381 iX0_canWhite vX0_canWhite kX0_canWhite rfl rfl (rr (by decide) rfl) rfl ⟨Nat.zero_le _, Nat.zero_le _⟩ (fun g' q => ct_Ceil_canWhite (q.1.Ci : CeilI _ _ _ _ _ _ _ _ _ _ _ _) q) ?_
    refine r_ireturn (pc := 129) (ty := .int) dX11_count_129 rfl rfl ⟨Nat.zero_le _, Nat.zero_le _⟩ (fun gE hg => ?_)
    exact h7 _ hg.1 hg.2
  by_cases s1_6 : a = 6
  · skip
    refine r_tableAt (pc := 1) 130 6 dX11_count_1 (by rw [s1_6]; decide) (by decide) rfl (by decide) ?_
    subst s1_6
    have h7 := hP (by decide)
    refine r_aload_n (pc := 130) dX11_count_130 rfl ?_
    refine r_getf (pc := 131) (k := 0) dX11_count_131 hX11 eX11 (by decide) fX11_10 (fun _ q => q.1.oo) rfl ?_
    refine r_getf (pc := 134) (k := 0) dX11_count_134 hX7 eX7 (by decide) fX11_92 (fun _ q => q.1.s) rfl ?_
    refine r_Vi (pc := 137) (μ' := mX0_canSize) dX11_count_137 nX11_384 iX0_canSize vX0_canSize kX0_canSize rfl rfl (rr (by decide) rfl) rfl ⟨Nat.zero_le _, Nat.zero_le _⟩ (fun g' q => ct_Ceil_canSize (q.1.Ci : CeilI _ _ _ _ _ _ _ _ _ _ _ _) q) ?_
    refine r_ireturn (pc := 140) (ty := .int) dX11_count_140 rfl rfl ⟨Nat.zero_le _, Nat.zero_le _⟩ (fun gE hg => ?_)
    exact h7 _ hg.1 hg.2
  by_cases s1_7 : a = 7
  · skip
    refine r_tableAt (pc := 1) 141 7 dX11_count_1 (by rw [s1_7]; decide) (by decide) rfl (by decide) ?_
    subst s1_7
    have h7 := hP (by decide)
    refine r_aload_n (pc := 141) dX11_count_141 rfl ?_
    refine r_getf (pc := 142) (k := 0) dX11_count_142 hX11 eX11 (by decide) fX11_10 (fun _ q => q.1.oo) rfl ?_
    refine r_getf (pc := 145) (k := 0) dX11_count_145 hX7 eX7 (by decide) fX11_92 (fun _ q => q.1.s) rfl ?_
    refine r_Vi (pc := 148) (μ' := mX0_heat) dX11_count_148 nX11_123 iX0_heat vX0_heat kX0_heat rfl rfl (rr (by decide) rfl) rfl ⟨Nat.zero_le _, Nat.zero_le _⟩ (fun g' q => ct_Ceil_heat (q.1.Ci : CeilI _ _ _ _ _ _ _ _ _ _ _ _) q) ?_
    refine r_ireturn (pc := 151) (ty := .int) dX11_count_151 rfl rfl ⟨Nat.zero_le _, Nat.zero_le _⟩ (fun gE hg => ?_)
    exact h7 _ hg.1 hg.2
  by_cases s1_8 : a = 8
  · skip
    refine r_tableAt (pc := 1) 152 8 dX11_count_1 (by rw [s1_8]; decide) (by decide) rfl (by decide) ?_
    subst s1_8
    have h7 := hP (by decide)
    refine r_aload_n (pc := 152) dX11_count_152 rfl ?_
    refine r_getf (pc := 153) (k := 0) dX11_count_153 hX11 eX11 (by decide) fX11_10 (fun _ q => q.1.oo) rfl ?_
    refine r_getf (pc := 156) (k := 4) dX11_count_156 hX7 eX7 (by decide) fX11_180 (fun _ q => q.1.s) rfl ?_
    refine r_Vi (pc := 159) (μ' := mX5_length) dX11_count_159 nX11_183 iX5_length vX5_length kX5_length rfl rfl (rr (by decide) rfl) rfl ⟨Nat.zero_le _, Nat.zero_le _⟩ (fun g' q => ct_Row_length q.1.Tp q) ?_
    refine r_ireturn (pc := 162) (ty := .int) dX11_count_162 rfl rfl ⟨Nat.zero_le _, Nat.zero_le _⟩ (fun gE hg => ?_)
    exact h7 _ hg.1 hg.2
  by_cases s1_9 : a = 9
  · skip
    refine r_tableAt (pc := 1) 163 9 dX11_count_1 (by rw [s1_9]; decide) (by decide) rfl (by decide) ?_
    subst s1_9
    have h7 := hP (by decide)
    refine r_aload_n (pc := 163) dX11_count_163 rfl ?_
    refine r_getf (pc := 164) (k := 0) dX11_count_164 hX11 eX11 (by decide) fX11_10 (fun _ q => q.1.oo) rfl ?_
    refine r_getf (pc := 167) (k := 5) dX11_count_167 hX7 eX7 (by decide) fX11_358 (fun _ q => q.1.s) rfl ?_
    refine r_Vi (pc := 170) (μ' := mX5_length) dX11_count_170 nX11_183 iX5_length vX5_length kX5_length rfl rfl (rr (by decide) rfl) rfl ⟨Nat.zero_le _, Nat.zero_le _⟩ (fun g' q => ct_Row_length q.1.Wa q) ?_
    refine r_ireturn (pc := 173) (ty := .int) dX11_count_173 rfl rfl ⟨Nat.zero_le _, Nat.zero_le _⟩ (fun gE hg => ?_)
    exact h7 _ hg.1 hg.2
  by_cases s1_10 : a = 10
  · skip
    refine r_tableAt (pc := 1) 174 10 dX11_count_1 (by rw [s1_10]; decide) (by decide) rfl (by decide) ?_
    subst s1_10
    have h7 := hP (by decide)
    refine r_aload_n (pc := 174) dX11_count_174 rfl ?_
    refine r_getf (pc := 175) (k := 5) dX11_count_175 hX11 eX11 (by decide) fX11_54 (fun _ q => q.1.oo) rfl ?_
    refine r_Vr (pc := 178) (μ' := mX10_heard) dX11_count_178 nX11_317 iX10_heard vX10_heard kX10_heard rfl rfl (rr (by decide) rfl) rfl ⟨Nat.zero_le _, Nat.zero_le _⟩ (fun g' q => heard_G q.1 q) ?_
    refine r_Vi (pc := 181) (μ' := mX5_length) dX11_count_181 nX11_183 iX5_length vX5_length kX5_length rfl rfl (rr (by decide) rfl) rfl ⟨Nat.zero_le _, Nat.zero_le _⟩ (fun g' q => ct_Row_length q.1.He q) ?_
    refine r_ireturn (pc := 184) (ty := .int) dX11_count_184 rfl rfl ⟨Nat.zero_le _, Nat.zero_le _⟩ (fun gE hg => ?_)
    exact h7 _ hg.1 hg.2
  by_cases s1_11 : a = 11
  · skip
    refine r_tableAt (pc := 1) 185 11 dX11_count_1 (by rw [s1_11]; decide) (by decide) rfl (by decide) ?_
    subst s1_11
    have h7 := hP (by decide)
    refine r_aload_n (pc := 185) dX11_count_185 rfl ?_
    refine r_getf (pc := 186) (k := 0) dX11_count_186 hX11 eX11 (by decide) fX11_10 (fun _ q => q.1.oo) rfl ?_
    refine r_getf (pc := 189) (k := 6) dX11_count_189 hX7 eX7 (by decide) fX11_310 (fun _ q => q.1.s) rfl ?_
    refine r_ireturn (pc := 192) (ty := .int) dX11_count_192 rfl rfl ⟨Nat.zero_le _, Nat.zero_le _⟩ (fun gE hg => ?_)
    exact h7 _ hg.1 hg.2
  have t1_0 : ¬ (a).toInt = 0 := fun q => s1_0 (Int32.toInt_inj.mp q)
  have t1_1 : ¬ (a).toInt = 1 := fun q => s1_1 (Int32.toInt_inj.mp q)
  have t1_2 : ¬ (a).toInt = 2 := fun q => s1_2 (Int32.toInt_inj.mp q)
  have t1_3 : ¬ (a).toInt = 3 := fun q => s1_3 (Int32.toInt_inj.mp q)
  have t1_4 : ¬ (a).toInt = 4 := fun q => s1_4 (Int32.toInt_inj.mp q)
  have t1_5 : ¬ (a).toInt = 5 := fun q => s1_5 (Int32.toInt_inj.mp q)
  have t1_6 : ¬ (a).toInt = 6 := fun q => s1_6 (Int32.toInt_inj.mp q)
  have t1_7 : ¬ (a).toInt = 7 := fun q => s1_7 (Int32.toInt_inj.mp q)
  have t1_8 : ¬ (a).toInt = 8 := fun q => s1_8 (Int32.toInt_inj.mp q)
  have t1_9 : ¬ (a).toInt = 9 := fun q => s1_9 (Int32.toInt_inj.mp q)
  have t1_10 : ¬ (a).toInt = 10 := fun q => s1_10 (Int32.toInt_inj.mp q)
  have t1_11 : ¬ (a).toInt = 11 := fun q => s1_11 (Int32.toInt_inj.mp q)
  refine r_tableOut (pc := 1) 193 dX11_count_1 (by omega) (by decide) ?_
  have k1 : wiB a 0 11 = false := decide_eq_false (by rw [t0, show (11 : Int32).toInt = 11 from rfl]; omega)
  refine r_aload_n (pc := 193) dX11_count_193 rfl ?_
  refine r_iconst (pc := 194) (v := 1) dX11_count_194 (by decide) ?_
  refine r_Vi (pc := 195) (μ' := mX11_error) dX11_count_195 nX11_88 iX11_error vX11_error kX11_error rfl rfl (rr (by decide) rfl) rfl ⟨Nat.zero_le _, Nat.zero_le _⟩ (fun g' q => ct_G_error (P' := fun g2 => Q (some (.int (-1000000000 - 1))) g2) q.1 (fun g2 x y => e1 k1 g2 x (q.2.tr y))) ?_
  refine r_ireturn (pc := 198) (ty := .int) dX11_count_198 rfl rfl ⟨Nat.zero_le _, Nat.zero_le _⟩ (fun gE hg => ?_)
  exact hg
def lwI (lD lL : List Int32) (a b c d : Int32) : Int32 := if a = 0 then lawI 0 lD b c d else lawI 1 lL b c d
theorem text_off {a : Int32} (q : GA o K hs lD lL tp wa z k bt sh hd er im h) (h0 : ¬ a = 0) (h1 : ¬ a = 1) (hP : P' h) : CV 1 0 0 mX11_textOf o [.int a] h (fun v g' => v = some .null ∧ P' g') := by
  have r := ct_G_textOf (u := a) q hP
  rw [if_neg h0, if_neg h1] at r
  exact r
theorem text_0 (q : GA o K hs lD lL tp wa z k bt sh hd er im h) (hP : P' h) : CV 1 0 0 mX11_textOf o [.int 0] h (fun v g' => v = some (.ref (o + 1 + 11)) ∧ P' g') := ct_G_textOf (u := 0) q hP
theorem text_1 (q : GA o K hs lD lL tp wa z k bt sh hd er im h) (hP : P' h) : CV 1 0 0 mX11_textOf o [.int 1] h (fun v g' => v = some (.ref (o + 1 + 16)) ∧ P' g') := ct_G_textOf (u := 1) q hP
theorem wi01 {a : Int32} : wiB a 0 1 = true ↔ a = 0 ∨ a = 1 := by
  constructor
  · intro w
    have := wi_t w
    rw [t0, t1] at this
    by_cases e : a.toInt = 0
    · exact Or.inl (fa_eq.mpr (by rw [e]; rfl))
    · exact Or.inr (fa_eq.mpr (by rw [t1]; omega))
  · rintro (rfl | rfl) <;> decide
set_option maxHeartbeats 8000000 in
theorem ct_G_law {a b c d : Int32} (q : GA o K hs lD lL tp wa z k bt sh hd er im g) (e1 : wiB a 0 1 = false → ∀ g', GA o K hs lD lL tp wa z k bt sh hd (errL er 1) im g' → Off o 95 g g' → Q (some (.int (-1000000000 - 1))) g') (hP : wiB a 0 1 = true → ∀ g', GA o K hs lD lL tp wa z k bt sh hd er im g' → Off o 95 g g' → Q (some (.int (lwI lD lL a b c d))) g') : CV 6 0 0 mX11_law o [.int a, .int b, .int c, .int d] g Q := by
  refine ⟨q.V, ?_⟩
  refine ct_of (by decide) (fun _ _ => Nat.le_of_ble_eq_true rfl) ?_
  dsimp only [pad, ent]
  refine aw_P (P' := fun g' => GA o K hs lD lL tp wa z k bt sh hd er im g' ∧ Off o 95 g g') (fun g' e => by subst e; exact ⟨q, Off.rf _ _ _⟩) ?_
  by_cases h0 : a = 0
  · subst h0
    obtain ⟨x, hx⟩ := q.Ey.2.1.run b c d
    have h7 := hP (by decide)
    rw [show lwI lD lL 0 b c d = lawI 0 lD b c d from rfl] at h7
    refine r_aload_n (pc := 0) dX11_law_0 rfl ?_
    refine r_iload_n (pc := 1) dX11_law_1 rfl ?_
    refine r_Vr (pc := 2) (μ' := mX11_textOf) dX11_law_2 nX11_191 iX11_textOf vX11_textOf kX11_textOf rfl rfl (rr (by decide) rfl) rfl ⟨Nat.zero_le _, Nat.zero_le _⟩ (fun g' q => text_0 q.1 q) ?_
    refine r_astore (pc := 5) dX11_law_5 (Nat.le_of_ble_eq_true rfl) rfl ?_
    dsimp only [lset]
    refine r_aload (pc := 7) dX11_law_7 rfl ?_
    refine r_ifnonnull (pc := 9) 20 dX11_law_9 (by decide) ?_
    refine r_aload (pc := 20) dX11_law_20 rfl ?_
    refine r_iload_n (pc := 22) dX11_law_22 rfl ?_
    refine r_iload_n (pc := 23) dX11_law_23 rfl ?_
    refine r_iload (pc := 24) dX11_law_24 rfl ?_
    refine r_Vi (pc := 26) (μ' := mX8_value) dX11_law_26 nX11_205 iX8_value vX8_value kX8_value rfl rfl (rr (by decide) rfl) rfl ⟨Nat.zero_le _, Nat.zero_le _⟩ (fun g' q => ct_Text_value (P' := fun g2 => Q (some (.int (lawI 0 lD b c d))) g2) q.1.St.2.2.2.1 hx (fun g2 x y => h7 g2 (q.1.setS (StAt.setD q.1.St x y) (y.wide (by omega) (by omega))) (q.2.tr (y.wide (by omega) (by omega))))) ?_
    refine r_ireturn (pc := 29) (ty := .int) dX11_law_29 rfl rfl ⟨Nat.zero_le _, Nat.zero_le _⟩ (fun gE hg => ?_)
    exact hg
  · by_cases h1 : a = 1
    · subst h1
      obtain ⟨x, hx⟩ := q.Ey.2.2.run b c d
      have h7 := hP (by decide)
      rw [show lwI lD lL 1 b c d = lawI 1 lL b c d from rfl] at h7
      refine r_aload_n (pc := 0) dX11_law_0 rfl ?_
      refine r_iload_n (pc := 1) dX11_law_1 rfl ?_
      refine r_Vr (pc := 2) (μ' := mX11_textOf) dX11_law_2 nX11_191 iX11_textOf vX11_textOf kX11_textOf rfl rfl (rr (by decide) rfl) rfl ⟨Nat.zero_le _, Nat.zero_le _⟩ (fun g' q => text_1 q.1 q) ?_
      refine r_astore (pc := 5) dX11_law_5 (Nat.le_of_ble_eq_true rfl) rfl ?_
      dsimp only [lset]
      refine r_aload (pc := 7) dX11_law_7 rfl ?_
      refine r_ifnonnull (pc := 9) 20 dX11_law_9 (by decide) ?_
      refine r_aload (pc := 20) dX11_law_20 rfl ?_
      refine r_iload_n (pc := 22) dX11_law_22 rfl ?_
      refine r_iload_n (pc := 23) dX11_law_23 rfl ?_
      refine r_iload (pc := 24) dX11_law_24 rfl ?_
      refine r_Vi (pc := 26) (μ' := mX8_value) dX11_law_26 nX11_205 iX8_value vX8_value kX8_value rfl rfl (rr (by decide) rfl) rfl ⟨Nat.zero_le _, Nat.zero_le _⟩ (fun g' q => ct_Text_value (P' := fun g2 => Q (some (.int (lawI 1 lL b c d))) g2) q.1.St.2.2.2.2.1 hx (fun g2 x y => h7 g2 (q.1.setS (StAt.setL q.1.St x y) (y.wide (by omega) (by omega))) (q.2.tr (y.wide (by omega) (by omega))))) ?_
      refine r_ireturn (pc := 29) (ty := .int) dX11_law_29 rfl rfl ⟨Nat.zero_le _, Nat.zero_le _⟩ (fun gE hg => ?_)
      exact hg
    · have k1 : wiB a 0 1 = false := by
        cases e : wiB a 0 1
        · rfl
        · rcases wi01.mp e with x | x
          · exact absurd x h0
          · exact absurd x h1
      refine r_aload_n (pc := 0) dX11_law_0 rfl ?_
      refine r_iload_n (pc := 1) dX11_law_1 rfl ?_
      refine r_VrN (pc := 2) (μ' := mX11_textOf) dX11_law_2 nX11_191 iX11_textOf vX11_textOf kX11_textOf rfl rfl (rr (by decide) rfl) rfl ⟨Nat.zero_le _, Nat.zero_le _⟩ (fun g' q => text_off q.1 h0 h1 q) ?_
      refine r_astoreN (pc := 5) dX11_law_5 (Nat.le_of_ble_eq_true rfl) rfl ?_
      dsimp only [lset]
      refine r_aloadN (pc := 7) dX11_law_7 rfl ?_
      refine r_ifnonnullN (pc := 9) dX11_law_9 ?_
      refine r_aload_n (pc := 12) dX11_law_12 rfl ?_
      refine r_iconst (pc := 13) (v := 1) dX11_law_13 (by decide) ?_
      refine r_Vi (pc := 14) (μ' := mX11_error) dX11_law_14 nX11_88 iX11_error vX11_error kX11_error rfl rfl (rr (by decide) rfl) rfl ⟨Nat.zero_le _, Nat.zero_le _⟩ (fun g' q => ct_G_error (P' := fun g2 => Q (some (.int (-1000000000 - 1))) g2) q.1 (fun g2 x y => e1 k1 g2 x (q.2.tr y))) ?_
      refine r_goto (pc := 17) 29 dX11_law_17 (by decide) ?_
      refine r_ireturn (pc := 29) (ty := .int) dX11_law_29 rfl rfl ⟨Nat.zero_le _, Nat.zero_le _⟩ (fun gE hg => ?_)
      exact hg
set_option maxHeartbeats 8000000 in
theorem ct_G_whose {a b c : Int32} (q : GA o K hs lD lL tp wa z k bt sh hd er im g) (ok : KOk K) (hok : HOk hs) (e1 : (hdB hs a && decide (0 ≤ b.toInt ∧ b.toInt < kSt K) && shB c) = false → ∀ g', GA o K hs lD lL tp wa z k bt sh hd (errL er 1) im g' → Off o 95 g g' → Q (some (.int (-1000000000 - 1))) g') (e2 : ∀ i s j, a = nI i → i < hs.length → b = nI s → s < kSt K → c = nI j → j < 4 → (bt j = 0 ∨ ¬ (sh j).length = kRo K ∨ lbI (sh j) (nI (kMi K)) (nI (hMn hs i)) < 0) → ∀ g', GA o K hs lD lL tp wa z k bt sh hd (errL er 2) im g' → Off o 95 g g' → Q (some (.int (-1000000000 - 2))) g') (hP : ∀ i s j, a = nI i → i < hs.length → b = nI s → s < kSt K → c = nI j → j < 4 → ¬ bt j = 0 → (sh j).length = kRo K → ¬ lbI (sh j) (nI (kMi K)) (nI (hMn hs i)) < 0 → ∀ g', GA o K hs lD lL tp wa z k bt sh hd er im g' → Off o 95 g g' → Q (some (.int (lbI (sh j) (nI (kMi K)) (nI (hMn hs i))))) g') : CV 8 0 0 mX11_whose o [.int a, .int b, .int c] g Q := by
  refine ⟨q.V, ?_⟩
  refine ct_of (by decide) (fun _ _ => Nat.le_of_ble_eq_true rfl) ?_
  dsimp only [pad, ent]
  have hst : 1 ≤ kSt K ∧ kSt K ≤ 6 := ok.2.1
  have hro : 1 ≤ kRo K ∧ kRo K ≤ 6 := ok.1
  have hTs : (nI K.2.1).toInt = (kSt K : Int) := nI_T (n := kSt K) (by omega)
  have hTr : (nI K.1).toInt = (kRo K : Int) := nI_T (n := kRo K) (by omega)
  have hlen := hok.1
  refine aw_P (P' := fun g' => GA o K hs lD lL tp wa z k bt sh hd er im g' ∧ Off o 95 g g') (fun g' e => by subst e; exact ⟨q, Off.rf _ _ _⟩) ?_
  by_cases hb : shB c = true
  · obtain ⟨j, hj, hj4⟩ := sh_t hb
    have hl40 := (q.Sh j hj4).2.2.2.1
    have hTl := nI_T (n := (sh j).length) (by omega)
    refine r_aload_n (pc := 0) dX11_whose_0 rfl ?_
    refine r_iload_n (pc := 1) dX11_whose_1 rfl ?_
    rw [hj]
    refine r_Vr (pc := 2) (μ' := mX11_sheetOf) dX11_whose_2 nX11_239 iX11_sheetOf vX11_sheetOf kX11_sheetOf rfl rfl (rr (by decide) rfl) rfl ⟨Nat.zero_le _, Nat.zero_le _⟩ (fun g' q => sheet_in q.1 hj4 q) ?_
    refine r_astore (pc := 5) dX11_whose_5 (Nat.le_of_ble_eq_true rfl) rfl ?_
    dsimp only [lset]
    refine r_aload_n (pc := 7) dX11_whose_7 rfl ?_
    refine r_getf (pc := 8) (k := 0) dX11_whose_8 hX11 eX11 (by decide) fX11_10 (fun _ q => q.1.oo) rfl ?_
    refine r_getf (pc := 11) (k := 1) dX11_whose_11 hX7 eX7 (by decide) fX11_140 (fun _ q => q.1.s) rfl ?_
    refine r_iload_n (pc := 14) dX11_whose_14 rfl ?_
    refine r_Vi (pc := 15) (μ' := mX1_has) dX11_whose_15 nX11_153 iX1_has vX1_has kX1_has rfl rfl (rr (by decide) rfl) rfl ⟨Nat.zero_le _, Nat.zero_le _⟩ (fun g' q => ct_Crew_has q.1.W q) ?_
    refine r_if_eq (pc := 18) 40 dX11_whose_18 (by decide) (fun c18 => ?_) (fun c18 => ?_)
    · skip
      have k1 : hdB hs a = false := b2i_0.mp c18
      refine r_aload_n (pc := 40) dX11_whose_40 rfl ?_
      refine r_iconst (pc := 41) (v := 1) dX11_whose_41 (by decide) ?_
      refine r_Vi (pc := 42) (μ' := mX11_error) dX11_whose_42 nX11_88 iX11_error vX11_error kX11_error rfl rfl (rr (by decide) rfl) rfl ⟨Nat.zero_le _, Nat.zero_le _⟩ (fun g' q => ct_G_error (P' := fun g2 => Q (some (.int (-1000000000 - 1))) g2) q.1 (fun g2 x y => e1 (by first | (rw [k1]; rfl) | (rw [k1, k2]; rfl)) g2 x (q.2.tr y))) ?_
      refine r_ireturn (pc := 45) (ty := .int) dX11_whose_45 rfl rfl ⟨Nat.zero_le _, Nat.zero_le _⟩ (fun gE hg => ?_)
      exact hg
    · skip
      have k1 : hdB hs a = true := b2i_n0.mp c18
      refine r_aload_n (pc := 21) dX11_whose_21 rfl ?_
      refine r_getf (pc := 22) (k := 0) dX11_whose_22 hX11 eX11 (by decide) fX11_10 (fun _ q => q.1.oo) rfl ?_
      refine r_getf (pc := 25) (k := 0) dX11_whose_25 hX7 eX7 (by decide) fX11_92 (fun _ q => q.1.s) rfl ?_
      refine r_iload_n (pc := 28) dX11_whose_28 rfl ?_
      refine r_Vi (pc := 29) (μ' := mX0_isStrip) dX11_whose_29 nX11_210 iX0_isStrip vX0_isStrip kX0_isStrip rfl rfl (rr (by decide) rfl) rfl ⟨Nat.zero_le _, Nat.zero_le _⟩ (fun g' q => ct_Ceil_isStrip (q.1.Ci : CeilI _ _ _ _ _ _ _ _ _ _ _ _) q) ?_
      rw [hTs]
      refine r_if_eq (pc := 32) 40 dX11_whose_32 (by decide) (fun c32 => ?_) (fun c32 => ?_)
      · skip
        have k2 := b2i_0.mp c32
        refine r_aload_n (pc := 40) dX11_whose_40 rfl ?_
        refine r_iconst (pc := 41) (v := 1) dX11_whose_41 (by decide) ?_
        refine r_Vi (pc := 42) (μ' := mX11_error) dX11_whose_42 nX11_88 iX11_error vX11_error kX11_error rfl rfl (rr (by decide) rfl) rfl ⟨Nat.zero_le _, Nat.zero_le _⟩ (fun g' q => ct_G_error (P' := fun g2 => Q (some (.int (-1000000000 - 1))) g2) q.1 (fun g2 x y => e1 (by first | (rw [k1]; rfl) | (rw [k1, k2]; rfl)) g2 x (q.2.tr y))) ?_
        refine r_ireturn (pc := 45) (ty := .int) dX11_whose_45 rfl rfl ⟨Nat.zero_le _, Nat.zero_le _⟩ (fun gE hg => ?_)
        exact hg
      · skip
        have k2 := b2i_n0.mp c32
        have k5 := of_decide_eq_true k2
        obtain ⟨i, hi, hi2⟩ := hd_t k1 hok
        obtain ⟨s, hs1, hs2⟩ : ∃ s, b = nI s ∧ s < kSt K := ⟨b.toInt.toNat, (nI_tn (by omega) (by omega)).symm, by omega⟩
        refine r_aload (pc := 35) dX11_whose_35 rfl ?_
        refine r_ifnonnull (pc := 37) 46 dX11_whose_37 (by decide) ?_
        refine r_aload (pc := 46) dX11_whose_46 rfl ?_
        refine r_Vi (pc := 48) (μ' := mX6_isMissing) dX11_whose_48 nX11_243 iX6_isMissing vX6_isMissing kX6_isMissing rfl rfl (rr (by decide) rfl) rfl ⟨Nat.zero_le _, Nat.zero_le _⟩ (fun g' q => ct_Sheet_isMissing (q.1.Sh j hj4) q) ?_
        refine r_if_ne (pc := 51) 75 dX11_whose_51 (by decide) (fun c51 => ?_) (fun c51 => ?_)
        · skip
          have k3 : bt j = 0 := of_decide_eq_true (b2i_n0.mp c51)
          have k6 : bt j = 0 ∨ ¬ (sh j).length = kRo K ∨ lbI (sh j) (nI (kMi K)) (nI (hMn hs i)) < 0 := Or.inl k3
          refine r_aload_n (pc := 75) dX11_whose_75 rfl ?_
          refine r_iconst (pc := 76) (v := 2) dX11_whose_76 (by decide) ?_
          refine r_Vi (pc := 77) (μ' := mX11_error) dX11_whose_77 nX11_88 iX11_error vX11_error kX11_error rfl rfl (rr (by decide) rfl) rfl ⟨Nat.zero_le _, Nat.zero_le _⟩ (fun g' q => ct_G_error (P' := fun g2 => Q (some (.int (-1000000000 - 2))) g2) q.1 (fun g2 x y => e2 i s j hi hi2 hs1 hs2 hj hj4 k6 g2 x (q.2.tr y))) ?_
          refine r_ireturn (pc := 80) (ty := .int) dX11_whose_80 rfl rfl ⟨Nat.zero_le _, Nat.zero_le _⟩ (fun gE hg => ?_)
          exact hg
        · skip
          have k3 : ¬ bt j = 0 := of_decide_eq_false (b2i_0.mp c51)
          refine r_aload (pc := 54) dX11_whose_54 rfl ?_
          refine r_getf (pc := 56) (k := 0) dX11_whose_56 hX6 eX6 (by decide) fX11_246 (fun _ q => (q.1.Sh j hj4).o) rfl ?_
          refine r_Vi (pc := 59) (μ' := mX5_length) dX11_whose_59 nX11_183 iX5_length vX5_length kX5_length rfl rfl (rr (by decide) rfl) rfl ⟨Nat.zero_le _, Nat.zero_le _⟩ (fun g' q => ct_Row_length (q.1.Sh j hj4).2.2 q) ?_
          refine r_aload_n (pc := 62) dX11_whose_62 rfl ?_
          refine r_getf (pc := 63) (k := 0) dX11_whose_63 hX11 eX11 (by decide) fX11_10 (fun _ q => q.1.oo) rfl ?_
          refine r_getf (pc := 66) (k := 0) dX11_whose_66 hX7 eX7 (by decide) fX11_92 (fun _ q => q.1.s) rfl ?_
          refine r_Vi (pc := 69) (μ' := mX0_rows) dX11_whose_69 nX11_297 iX0_rows vX0_rows kX0_rows rfl rfl (rr (by decide) rfl) rfl ⟨Nat.zero_le _, Nat.zero_le _⟩ (fun g' q => ct_Ceil_rows (q.1.Ci : CeilI _ _ _ _ _ _ _ _ _ _ _ _) q) ?_
          refine r_icmp_eq (pc := 72) 81 dX11_whose_72 (by decide) (fun c72 => ?_) (fun c72 => ?_)
          · skip
            have k4 : (sh j).length = kRo K := by have := fa_eq.mp c72; rw [hTl, hTr] at this; omega
            refine r_aload (pc := 81) dX11_whose_81 rfl ?_
            refine r_getf (pc := 83) (k := 0) dX11_whose_83 hX6 eX6 (by decide) fX11_246 (fun _ q => (q.1.Sh j hj4).o) rfl ?_
            refine r_aload_n (pc := 86) dX11_whose_86 rfl ?_
            refine r_getf (pc := 87) (k := 0) dX11_whose_87 hX11 eX11 (by decide) fX11_10 (fun _ q => q.1.oo) rfl ?_
            refine r_getf (pc := 90) (k := 0) dX11_whose_90 hX7 eX7 (by decide) fX11_92 (fun _ q => q.1.s) rfl ?_
            refine r_Vi (pc := 93) (μ' := mX0_minute) dX11_whose_93 nX11_220 iX0_minute vX0_minute kX0_minute rfl rfl (rr (by decide) rfl) rfl ⟨Nat.zero_le _, Nat.zero_le _⟩ (fun g' q => ct_Ceil_minute (q.1.Ci : CeilI _ _ _ _ _ _ _ _ _ _ _ _) q) ?_
            refine r_aload_n (pc := 96) dX11_whose_96 rfl ?_
            refine r_getf (pc := 97) (k := 0) dX11_whose_97 hX11 eX11 (by decide) fX11_10 (fun _ q => q.1.oo) rfl ?_
            refine r_getf (pc := 100) (k := 1) dX11_whose_100 hX7 eX7 (by decide) fX11_140 (fun _ q => q.1.s) rfl ?_
            refine r_iload_n (pc := 103) dX11_whose_103 rfl ?_
            refine r_Vi (pc := 104) (μ' := mX1_numberOf) dX11_whose_104 nX11_159 iX1_numberOf vX1_numberOf kX1_numberOf rfl rfl (rr (by decide) rfl) rfl ⟨Nat.zero_le _, Nat.zero_le _⟩ (fun g' q => ct_Crew_numberOf q.1.W q) ?_
            rw [hi, hs_m hi2 hlen]
            refine aw_at fun gq hgq => ?_
            refine r_Si (pc := 107) (μ' := mX3_leastBy) dX11_whose_107 nX11_300 sX3_leastBy kX3_leastBy rfl rfl (rr (by decide) rfl) rfl ⟨Nat.zero_le _, Nat.zero_le _⟩ (fun g' q => (ct_Kinds_leastBy (g := g') (l := sh j) (cap := 40) (by rw [q]; exact (hgq.1.Sh j hj4).2.2)).mono (fun v g2 x => ⟨x.1, (by rw [x.2, q]; exact hgq : GA o K hs lD lL tp wa z k bt sh hd er im g2 ∧ Off o 95 g g2)⟩)) ?_
            refine r_istore (pc := 110) dX11_whose_110 (Nat.le_of_ble_eq_true rfl) rfl ?_
            dsimp only [lset]
            refine r_iload (pc := 112) dX11_whose_112 rfl ?_
            refine r_if_ge (pc := 114) 125 dX11_whose_114 (by decide) (fun c114 => ?_) (fun c114 => ?_)
            · skip
              have k7 : ¬ lbI (sh j) (nI (kMi K)) (nI (hMn hs i)) < 0 := fun x => by have h1 := fa_lt.mp x; have h2 : (0 : Int32).toInt ≤ (lbI (sh j) (nI (kMi K)) (nI (hMn hs i))).toInt := fa_le.mp c114; omega
              have h7 := hP i s j hi hi2 hs1 hs2 hj hj4 k3 k4 k7
              refine r_iload (pc := 125) dX11_whose_125 rfl ?_
              refine r_ireturn (pc := 127) (ty := .int) dX11_whose_127 rfl rfl ⟨Nat.zero_le _, Nat.zero_le _⟩ (fun gE hg => ?_)
              first
              | exact hg
              | exact h7 _ hg.1 hg.2
            · skip
              have k7 : lbI (sh j) (nI (kMi K)) (nI (hMn hs i)) < 0 := fa_lt.mpr (by have : ¬ (0 : Int32).toInt ≤ (lbI (sh j) (nI (kMi K)) (nI (hMn hs i))).toInt := fun x => c114 (fa_le.mpr x); omega)
              have k6 : bt j = 0 ∨ ¬ (sh j).length = kRo K ∨ lbI (sh j) (nI (kMi K)) (nI (hMn hs i)) < 0 := Or.inr (Or.inr k7)
              refine r_aload_n (pc := 117) dX11_whose_117 rfl ?_
              refine r_iconst (pc := 118) (v := 2) dX11_whose_118 (by decide) ?_
              refine r_Vi (pc := 119) (μ' := mX11_error) dX11_whose_119 nX11_88 iX11_error vX11_error kX11_error rfl rfl (rr (by decide) rfl) rfl ⟨Nat.zero_le _, Nat.zero_le _⟩ (fun g' q => ct_G_error (P' := fun g2 => Q (some (.int (-1000000000 - 2))) g2) q.1 (fun g2 x y => e2 i s j hi hi2 hs1 hs2 hj hj4 k6 g2 x (q.2.tr y))) ?_
              refine r_goto (pc := 122) 127 dX11_whose_122 (by decide) ?_
              refine r_ireturn (pc := 127) (ty := .int) dX11_whose_127 rfl rfl ⟨Nat.zero_le _, Nat.zero_le _⟩ (fun gE hg => ?_)
              first
              | exact hg
              | exact h7 _ hg.1 hg.2
          · skip
            have k4 : ¬ (sh j).length = kRo K := fun x => c72 (by rw [x])
            have k6 : bt j = 0 ∨ ¬ (sh j).length = kRo K ∨ lbI (sh j) (nI (kMi K)) (nI (hMn hs i)) < 0 := Or.inr (Or.inl k4)
            refine r_aload_n (pc := 75) dX11_whose_75 rfl ?_
            refine r_iconst (pc := 76) (v := 2) dX11_whose_76 (by decide) ?_
            refine r_Vi (pc := 77) (μ' := mX11_error) dX11_whose_77 nX11_88 iX11_error vX11_error kX11_error rfl rfl (rr (by decide) rfl) rfl ⟨Nat.zero_le _, Nat.zero_le _⟩ (fun g' q => ct_G_error (P' := fun g2 => Q (some (.int (-1000000000 - 2))) g2) q.1 (fun g2 x y => e2 i s j hi hi2 hs1 hs2 hj hj4 k6 g2 x (q.2.tr y))) ?_
            refine r_ireturn (pc := 80) (ty := .int) dX11_whose_80 rfl rfl ⟨Nat.zero_le _, Nat.zero_le _⟩ (fun gE hg => ?_)
            exact hg
  · have hb2 : shB c = false := by cases h : shB c <;> simp_all
    refine r_aload_n (pc := 0) dX11_whose_0 rfl ?_
    refine r_iload_n (pc := 1) dX11_whose_1 rfl ?_
    refine r_VrN (pc := 2) (μ' := mX11_sheetOf) dX11_whose_2 nX11_239 iX11_sheetOf vX11_sheetOf kX11_sheetOf rfl rfl (rr (by decide) rfl) rfl ⟨Nat.zero_le _, Nat.zero_le _⟩ (fun g' q => sheet_out q.1 (of_decide_eq_false hb2) q) ?_
    refine r_astoreN (pc := 5) dX11_whose_5 (Nat.le_of_ble_eq_true rfl) rfl ?_
    dsimp only [lset]
    refine r_aload_n (pc := 7) dX11_whose_7 rfl ?_
    refine r_getf (pc := 8) (k := 0) dX11_whose_8 hX11 eX11 (by decide) fX11_10 (fun _ q => q.1.oo) rfl ?_
    refine r_getf (pc := 11) (k := 1) dX11_whose_11 hX7 eX7 (by decide) fX11_140 (fun _ q => q.1.s) rfl ?_
    refine r_iload_n (pc := 14) dX11_whose_14 rfl ?_
    refine r_Vi (pc := 15) (μ' := mX1_has) dX11_whose_15 nX11_153 iX1_has vX1_has kX1_has rfl rfl (rr (by decide) rfl) rfl ⟨Nat.zero_le _, Nat.zero_le _⟩ (fun g' q => ct_Crew_has q.1.W q) ?_
    refine r_if_eq (pc := 18) 40 dX11_whose_18 (by decide) (fun c18 => ?_) (fun c18 => ?_)
    · skip
      have k1 : hdB hs a = false := b2i_0.mp c18
      refine r_aload_n (pc := 40) dX11_whose_40 rfl ?_
      refine r_iconst (pc := 41) (v := 1) dX11_whose_41 (by decide) ?_
      refine r_Vi (pc := 42) (μ' := mX11_error) dX11_whose_42 nX11_88 iX11_error vX11_error kX11_error rfl rfl (rr (by decide) rfl) rfl ⟨Nat.zero_le _, Nat.zero_le _⟩ (fun g' q => ct_G_error (P' := fun g2 => Q (some (.int (-1000000000 - 1))) g2) q.1 (fun g2 x y => e1 (by rw [hb2, Bool.and_false]) g2 x (q.2.tr y))) ?_
      refine r_ireturn (pc := 45) (ty := .int) dX11_whose_45 rfl rfl ⟨Nat.zero_le _, Nat.zero_le _⟩ (fun gE hg => ?_)
      exact hg
    · skip
      have k1 : hdB hs a = true := b2i_n0.mp c18
      refine r_aload_n (pc := 21) dX11_whose_21 rfl ?_
      refine r_getf (pc := 22) (k := 0) dX11_whose_22 hX11 eX11 (by decide) fX11_10 (fun _ q => q.1.oo) rfl ?_
      refine r_getf (pc := 25) (k := 0) dX11_whose_25 hX7 eX7 (by decide) fX11_92 (fun _ q => q.1.s) rfl ?_
      refine r_iload_n (pc := 28) dX11_whose_28 rfl ?_
      refine r_Vi (pc := 29) (μ' := mX0_isStrip) dX11_whose_29 nX11_210 iX0_isStrip vX0_isStrip kX0_isStrip rfl rfl (rr (by decide) rfl) rfl ⟨Nat.zero_le _, Nat.zero_le _⟩ (fun g' q => ct_Ceil_isStrip (q.1.Ci : CeilI _ _ _ _ _ _ _ _ _ _ _ _) q) ?_
      rw [hTs]
      refine r_if_eq (pc := 32) 40 dX11_whose_32 (by decide) (fun c32 => ?_) (fun c32 => ?_)
      · skip
        have k2 := b2i_0.mp c32
        refine r_aload_n (pc := 40) dX11_whose_40 rfl ?_
        refine r_iconst (pc := 41) (v := 1) dX11_whose_41 (by decide) ?_
        refine r_Vi (pc := 42) (μ' := mX11_error) dX11_whose_42 nX11_88 iX11_error vX11_error kX11_error rfl rfl (rr (by decide) rfl) rfl ⟨Nat.zero_le _, Nat.zero_le _⟩ (fun g' q => ct_G_error (P' := fun g2 => Q (some (.int (-1000000000 - 1))) g2) q.1 (fun g2 x y => e1 (by rw [hb2, Bool.and_false]) g2 x (q.2.tr y))) ?_
        refine r_ireturn (pc := 45) (ty := .int) dX11_whose_45 rfl rfl ⟨Nat.zero_le _, Nat.zero_le _⟩ (fun gE hg => ?_)
        exact hg
      · skip
        have k2 := b2i_n0.mp c32
        refine r_aloadN (pc := 35) dX11_whose_35 rfl ?_
        refine r_ifnonnullN (pc := 37) dX11_whose_37 ?_
        refine r_aload_n (pc := 40) dX11_whose_40 rfl ?_
        refine r_iconst (pc := 41) (v := 1) dX11_whose_41 (by decide) ?_
        refine r_Vi (pc := 42) (μ' := mX11_error) dX11_whose_42 nX11_88 iX11_error vX11_error kX11_error rfl rfl (rr (by decide) rfl) rfl ⟨Nat.zero_le _, Nat.zero_le _⟩ (fun g' q => ct_G_error (P' := fun g2 => Q (some (.int (-1000000000 - 1))) g2) q.1 (fun g2 x y => e1 (by rw [hb2, Bool.and_false]) g2 x (q.2.tr y))) ?_
        refine r_ireturn (pc := 45) (ty := .int) dX11_whose_45 rfl rfl ⟨Nat.zero_le _, Nat.zero_le _⟩ (fun gE hg => ?_)
        exact hg
end MethF
