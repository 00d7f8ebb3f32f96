/-! SEAMS, SEEN -/
def WB (K : CK) : Prop := ∀ r s, -1 ≤ kW K r s ∧ kW K r s ≤ 30000
theorem wE_rng {K : CK} (h : WB K) (r p : Nat) : -1 ≤ wE K r p ∧ wE K r p ≤ 30000 := by
  unfold wE
  split
  · exact h r p
  · omega
theorem vE_rng {K : CK} (ok : KOk K) (r p : Nat) : vE K r p ≤ 99 := by
  unfold vE
  split
  · exact ok.2.2.2.2.2.2 r p
  · omega
/-- a seam between STRIPS s and s + 1 in a row, s rolled as column p, s + 1 as column q, a pause later -/
def seamB (K : CK) (dr : Nat → Nat → Nat) (r s p q n : Nat) : Bool :=
  if wE K r p < 0 ∨ wE K r q < 0 then false else if vE K r p ≠ vE K r q then true
  else if 0 ≤ wE K r q + n - wE K r p then decide ((dr r s : Int) < wE K r q + n - wE K r p) else decide ((dr r (s + 1) : Int) < -(wE K r q + n - wE K r p))
def absD (a b : Nat) : Nat := if b ≤ a then a - b else b - a
def sbN (K : CK) (dr : Nat → Nat → Nat) (lt : Nat → Nat → Nat → Nat) (s p q n : Nat) : Nat → Nat
  | 0 => 0
  | k + 1 => sbN K dr lt s p q n k + (if seamB K dr k s p q n = true then lt k s (absD (vE K k p) (vE K k q)) else 0)
def seN (K : CK) (dr : Nat → Nat → Nat) (lt : Nat → Nat → Nat → Nat) : Nat → Nat
  | 0 => 0
  | k + 1 => seN K dr lt k + sbN K dr lt k k (k + 1) 0 (kRo K)
/-- SEEN of a ceiling -/
def seenN (K : CK) (dr : Nat → Nat → Nat) (lt : Nat → Nat → Nat → Nat) : Nat := seN K dr lt (kSt K - 1)
def cnS (K : CK) (dr : Nat → Nat → Nat) (r : Nat) : Nat → Nat
  | 0 => 0
  | k + 1 => cnS K dr r k + (if seamB K dr r k k (k + 1) 0 = true then 1 else 0)
def cnR (K : CK) (dr : Nat → Nat → Nat) : Nat → Nat
  | 0 => 0
  | k + 1 => cnR K dr k + cnS K dr k (kSt K - 1)
def drL (lD : List Int32) (he : Nat) : Nat → Nat → Nat := fun r s => lawN 0 lD r s he
def ltL (lL : List Int32) : Nat → Nat → Nat → Nat := fun r s d => lawN 1 lL r s d
section Sm
variable {ε td c : Nat} {lD lL : List Int32} {K : CK} {g h : AH} {P' : AH → Prop}
/-- the eye and a ceiling elsewhere -/
def EC (ε td c : Nat) (lD lL : List Int32) (K : CK) (g : AH) : Prop := EyeW ε td lD lL g ∧ CeilK c K g ∧ (c + 5 ≤ ε ∨ ε + 5 ≤ c) ∧ (c + 5 ≤ td ∨ td + 10 ≤ c)
theorem EC.on (q : EC ε td c lD lL K h) (e : EyeW ε td lD lL g) (o : OffS (eyS ε td) h g) : EC ε td c lD lL K g :=
  ⟨e, q.2.1.same (o.same (fun j h1 h2 q3 => by have := q.2.2; unfold eyS at q3; omega)), q.2.2⟩
theorem beh_T {a b : Int} {n : Nat} (ha : -1 ≤ a ∧ a ≤ 30000) (hb : -1 ≤ b ∧ b ≤ 30000) (hn : n ≤ 4000) : (iI b + nI n - iI a).toInt = b + n - a := by
  rw [Int32.toInt_sub, Int32.toInt_add, iI_T (by omega) (by omega), iI_T (by omega) (by omega), nI_T hn]
  rw [Int.bmod_eq_of_le (n := b + (n : Int)) (by omega) (by omega)]
  exact Int.bmod_eq_of_le (by omega) (by omega)
theorem neg_T {x : Int32} (h : -100000 ≤ x.toInt) : (-x).toInt = -x.toInt := by
  have := x.toInt_lt
  rw [Int32.toInt_neg]
  exact Int.bmod_eq_of_le (by omega) (by omega)
set_option maxHeartbeats 8000000 in
theorem ct_Eye_isSeam {r s p q n : Nat} (hR : EC ε td c lD lL K g) (ok : KOk K) (wb : WB K) (hr : r < kRo K) (hs : s < 6) (hp : p ≤ 6) (hq : q ≤ 6) (hsq : s + 1 < 6 ∨ kSt K ≤ q) (hn : n ≤ 4000) (hP : ∀ g', EC ε td c lD lL K g' → OffS (eyS ε td) g g' → P' g') : CV 6 0 0 mX2_isSeam ε [.ref c, .int (nI r), .int (nI s), .int (nI p), .int (nI q), .int (nI n)] g (fun v g' => v = some (.int (b2i (seamB K (drL lD (kHe K)) r s p q n))) ∧ P' g') := by
  refine ⟨hR.1.V, ?_⟩
  refine ct_of (by decide) (fun _ _ => Nat.le_of_ble_eq_true rfl) ?_
  dsimp only [pad, ent]
  have hwa := wE_rng wb r p
  have hwb := wE_rng wb r q
  have hva := vE_rng ok r p
  have hvb := vE_rng ok r q
  have hTa := iI_T (x := wE K r p) (by omega) (by omega)
  have hTb := iI_T (x := wE K r q) (by omega) (by omega)
  have hTd := beh_T hwa hwb hn
  have hro : kRo K ≤ 6 := ok.1.2
  have hhe : kHe K ≤ 9 := ok.2.2.1
  unfold seamB
  refine aw_P (P' := fun g' => EC ε td c lD lL K g' ∧ OffS (eyS ε td) g g') (fun g' e => by subst e; exact ⟨hR, OffS.rf _ _⟩) ?_
  refine r_aload_n (pc := 0) dX2_isSeam_0 rfl ?_
  refine r_iload_n (pc := 1) dX2_isSeam_1 rfl ?_
  refine r_iload (pc := 2) dX2_isSeam_2 rfl ?_
  refine r_Vi (pc := 4) (μ' := mX0_whenAt) dX2_isSeam_4 nX2_51 iX0_whenAt vX0_whenAt kX0_whenAt rfl rfl (rr (by decide) rfl) rfl ⟨Nat.zero_le _, Nat.zero_le _⟩ (fun g' q => ct_CK_whenAt q.1.2.1 ok hr hp q) ?_
  refine r_istore (pc := 7) dX2_isSeam_7 (Nat.le_of_ble_eq_true rfl) rfl ?_
  dsimp only [lset]
  refine r_aload_n (pc := 9) dX2_isSeam_9 rfl ?_
  refine r_iload_n (pc := 10) dX2_isSeam_10 rfl ?_
  refine r_iload (pc := 11) dX2_isSeam_11 rfl ?_
  refine r_Vi (pc := 13) (μ' := mX0_whenAt) dX2_isSeam_13 nX2_51 iX0_whenAt vX0_whenAt kX0_whenAt rfl rfl (rr (by decide) rfl) rfl ⟨Nat.zero_le _, Nat.zero_le _⟩ (fun g' q => ct_CK_whenAt q.1.2.1 ok hr hq q) ?_
  refine r_istore (pc := 16) dX2_isSeam_16 (Nat.le_of_ble_eq_true rfl) rfl ?_
  dsimp only [lset]
  refine r_iload (pc := 18) dX2_isSeam_18 rfl ?_
  refine r_if_lt (pc := 20) 28 dX2_isSeam_20 (by decide) (fun c20 => ?_) (fun c20 => ?_)
  · skip
    have k := i32_lt0.mp c20
    rw [hTa] at k
    rw [if_pos (Or.inl k)]
    refine r_iconst (pc := 28) (v := 0) dX2_isSeam_28 (by decide) ?_
    refine r_ireturn (pc := 29) (ty := .boolean) dX2_isSeam_29 rfl rfl ⟨Nat.zero_le _, Nat.zero_le _⟩ (fun gE hg => ?_)
    exact ⟨rfl, hP _ hg.1 hg.2⟩
  · skip
    have k20 := ge0 c20
    rw [hTa] at k20
    refine r_iload (pc := 23) dX2_isSeam_23 rfl ?_
    refine r_if_ge (pc := 25) 30 dX2_isSeam_25 (by decide) (fun c25 => ?_) (fun c25 => ?_)
    · skip
      have k25 := i32_le0.mp c25
      rw [hTb] at k25
      rw [if_neg (by omega)]
      refine r_aload_n (pc := 30) dX2_isSeam_30 rfl ?_
      refine r_iload_n (pc := 31) dX2_isSeam_31 rfl ?_
      refine r_iload (pc := 32) dX2_isSeam_32 rfl ?_
      refine r_Vi (pc := 34) (μ' := mX0_whiteAt) dX2_isSeam_34 nX2_55 iX0_whiteAt vX0_whiteAt kX0_whiteAt rfl rfl (rr (by decide) rfl) rfl ⟨Nat.zero_le _, Nat.zero_le _⟩ (fun g' q => ct_CK_whiteAt q.1.2.1 ok hr hp q) ?_
      refine r_aload_n (pc := 37) dX2_isSeam_37 rfl ?_
      refine r_iload_n (pc := 38) dX2_isSeam_38 rfl ?_
      refine r_iload (pc := 39) dX2_isSeam_39 rfl ?_
      refine r_Vi (pc := 41) (μ' := mX0_whiteAt) dX2_isSeam_41 nX2_55 iX0_whiteAt vX0_whiteAt kX0_whiteAt rfl rfl (rr (by decide) rfl) rfl ⟨Nat.zero_le _, Nat.zero_le _⟩ (fun g' q => ct_CK_whiteAt q.1.2.1 ok hr hq q) ?_
      refine r_icmp_eq (pc := 44) 49 dX2_isSeam_44 (by decide) (fun c44 => ?_) (fun c44 => ?_)
      · skip
        have k44 : vE K r p = vE K r q := by
          have := fa_eq.mp c44
          rw [nI_T (by omega), nI_T (by omega)] at this
          omega
        rw [if_neg (fun z => z k44)]
        refine r_iload (pc := 49) dX2_isSeam_49 rfl ?_
        refine r_iload (pc := 51) dX2_isSeam_51 rfl ?_
        refine r_iadd (pc := 53) dX2_isSeam_53 ?_
        refine r_iload (pc := 54) dX2_isSeam_54 rfl ?_
        refine r_isub (pc := 56) dX2_isSeam_56 ?_
        refine r_istore (pc := 57) dX2_isSeam_57 (Nat.le_of_ble_eq_true rfl) rfl ?_
        dsimp only [lset]
        refine r_iload (pc := 59) dX2_isSeam_59 rfl ?_
        refine r_if_lt (pc := 61) 87 dX2_isSeam_61 (by decide) (fun c61 => ?_) (fun c61 => ?_)
        · skip
          have k61 := i32_lt0.mp c61
          rw [hTd] at k61
          rw [if_neg (by omega)]
          refine r_iload (pc := 87) dX2_isSeam_87 rfl ?_
          refine r_ineg (pc := 89) dX2_isSeam_89 ?_
          refine r_aload_n (pc := 90) dX2_isSeam_90 rfl ?_
          refine r_iload_n (pc := 91) dX2_isSeam_91 rfl ?_
          refine r_iload_n (pc := 92) dX2_isSeam_92 rfl ?_
          refine r_iconst (pc := 93) (v := 1) dX2_isSeam_93 (by decide) ?_
          refine r_iadd (pc := 94) dX2_isSeam_94 ?_
          rw [nI_s]
          refine r_aload_n (pc := 95) dX2_isSeam_95 rfl ?_
          refine r_Vi (pc := 96) (μ' := mX0_heat) dX2_isSeam_96 nX2_58 iX0_heat vX0_heat kX0_heat rfl rfl (rr (by decide) rfl) rfl ⟨Nat.zero_le _, Nat.zero_le _⟩ (fun g' q => ct_Ceil_heat (q.1.2.1 : CeilI _ _ _ _ _ _ _ _ _ _ _ _) q) ?_
          refine r_Vi (pc := 99) (μ' := mX2_driesOf) dX2_isSeam_99 nX2_61 iX2_driesOf vX2_driesOf kX2_driesOf rfl rfl (rr (by decide) rfl) rfl ⟨Nat.zero_le _, Nat.zero_le _⟩ (fun g' q => ct_Eye_driesOf (P' := fun g2 => EC ε td c lD lL K g2 ∧ OffS (eyS ε td) g g2) q.1.1 (show r < 6 by omega) (show s + 1 < 6 by rcases hsq with z | z; exact z; exfalso; unfold wE at k25; rw [if_neg (by omega)] at k25; omega) (show kHe K < 10 by omega) (fun g2 a b => ⟨q.1.on a b, q.2.tr b⟩)) ?_
          refine r_icmp_le (pc := 102) 109 dX2_isSeam_102 (by decide) (fun c102 => ?_) (fun c102 => ?_)
          · skip
            have hl := (lawN_ok 0 lD r (s + 1) (kHe K)).2
            have k102 : ¬ (drL lD (kHe K) r (s + 1) : Int) < -(wE K r q + n - wE K r p) := fun z => by
              have := fa_le.mp c102
              rw [neg_T (by rw [hTd]; omega), hTd, nI_T (show lawN 0 lD r (s + 1) (kHe K) ≤ 4000 by omega)] at this
              unfold drL at z
              omega
            rw [decide_eq_false k102]
            refine r_iconst (pc := 109) (v := 0) dX2_isSeam_109 (by decide) ?_
            refine r_ireturn (pc := 110) (ty := .boolean) dX2_isSeam_110 rfl rfl ⟨Nat.zero_le _, Nat.zero_le _⟩ (fun gE hg => ?_)
            exact ⟨rfl, hP _ hg.1 hg.2⟩
          · skip
            have hl := (lawN_ok 0 lD r (s + 1) (kHe K)).2
            have k102 : (drL lD (kHe K) r (s + 1) : Int) < -(wE K r q + n - wE K r p) := by
              have := fa_lt.mp (Int32.not_le.mp c102)
              rw [neg_T (by rw [hTd]; omega), hTd, nI_T (show lawN 0 lD r (s + 1) (kHe K) ≤ 4000 by omega)] at this
              unfold drL
              omega
            rw [decide_eq_true k102]
            refine r_iconst (pc := 105) (v := 1) dX2_isSeam_105 (by decide) ?_
            refine r_goto (pc := 106) 110 dX2_isSeam_106 (by decide) ?_
            refine r_ireturn (pc := 110) (ty := .boolean) dX2_isSeam_110 rfl rfl ⟨Nat.zero_le _, Nat.zero_le _⟩ (fun gE hg => ?_)
            exact ⟨rfl, hP _ hg.1 hg.2⟩
        · skip
          have k61 := ge0 c61
          rw [hTd] at k61
          rw [if_pos k61]
          refine r_iload (pc := 64) dX2_isSeam_64 rfl ?_
          refine r_aload_n (pc := 66) dX2_isSeam_66 rfl ?_
          refine r_iload_n (pc := 67) dX2_isSeam_67 rfl ?_
          refine r_iload_n (pc := 68) dX2_isSeam_68 rfl ?_
          refine r_aload_n (pc := 69) dX2_isSeam_69 rfl ?_
          refine r_Vi (pc := 70) (μ' := mX0_heat) dX2_isSeam_70 nX2_58 iX0_heat vX0_heat kX0_heat rfl rfl (rr (by decide) rfl) rfl ⟨Nat.zero_le _, Nat.zero_le _⟩ (fun g' q => ct_Ceil_heat (q.1.2.1 : CeilI _ _ _ _ _ _ _ _ _ _ _ _) q) ?_
          refine r_Vi (pc := 73) (μ' := mX2_driesOf) dX2_isSeam_73 nX2_61 iX2_driesOf vX2_driesOf kX2_driesOf rfl rfl (rr (by decide) rfl) rfl ⟨Nat.zero_le _, Nat.zero_le _⟩ (fun g' q => ct_Eye_driesOf (P' := fun g2 => EC ε td c lD lL K g2 ∧ OffS (eyS ε td) g g2) q.1.1 (show r < 6 by omega) hs (show kHe K < 10 by omega) (fun g2 a b => ⟨q.1.on a b, q.2.tr b⟩)) ?_
          refine r_icmp_le (pc := 76) 83 dX2_isSeam_76 (by decide) (fun c76 => ?_) (fun c76 => ?_)
          · skip
            have hl := (lawN_ok 0 lD r s (kHe K)).2
            have k76 : ¬ (drL lD (kHe K) r s : Int) < wE K r q + n - wE K r p := fun z => by
              have := fa_le.mp c76
              rw [hTd, nI_T (show lawN 0 lD r s (kHe K) ≤ 4000 by omega)] at this
              unfold drL at z
              omega
            rw [decide_eq_false k76]
            refine r_iconst (pc := 83) (v := 0) dX2_isSeam_83 (by decide) ?_
            refine r_goto (pc := 84) 110 dX2_isSeam_84 (by decide) ?_
            refine r_ireturn (pc := 110) (ty := .boolean) dX2_isSeam_110 rfl rfl ⟨Nat.zero_le _, Nat.zero_le _⟩ (fun gE hg => ?_)
            exact ⟨rfl, hP _ hg.1 hg.2⟩
          · skip
            have hl := (lawN_ok 0 lD r s (kHe K)).2
            have k76 : (drL lD (kHe K) r s : Int) < wE K r q + n - wE K r p := by
              have := fa_lt.mp (Int32.not_le.mp c76)
              rw [hTd, nI_T (show lawN 0 lD r s (kHe K) ≤ 4000 by omega)] at this
              unfold drL
              omega
            rw [decide_eq_true k76]
            refine r_iconst (pc := 79) (v := 1) dX2_isSeam_79 (by decide) ?_
            refine r_goto (pc := 80) 110 dX2_isSeam_80 (by decide) ?_
            refine r_ireturn (pc := 110) (ty := .boolean) dX2_isSeam_110 rfl rfl ⟨Nat.zero_le _, Nat.zero_le _⟩ (fun gE hg => ?_)
            exact ⟨rfl, hP _ hg.1 hg.2⟩
      · skip
        have k44 : ¬ vE K r p = vE K r q := fun z => c44 (by rw [z])
        rw [if_pos k44]
        refine r_iconst (pc := 47) (v := 1) dX2_isSeam_47 (by decide) ?_
        refine r_ireturn (pc := 48) (ty := .boolean) dX2_isSeam_48 rfl rfl ⟨Nat.zero_le _, Nat.zero_le _⟩ (fun gE hg => ?_)
        exact ⟨rfl, hP _ hg.1 hg.2⟩
    · skip
      have k25 : ¬ (0 : Int) ≤ wE K r q := fun q => c25 (i32_le0.mpr (by rw [hTb]; exact q))
      rw [if_pos (Or.inr (by omega))]
      refine r_iconst (pc := 28) (v := 0) dX2_isSeam_28 (by decide) ?_
      refine r_ireturn (pc := 29) (ty := .boolean) dX2_isSeam_29 rfl rfl ⟨Nat.zero_le _, Nat.zero_le _⟩ (fun gE hg => ?_)
      exact ⟨rfl, hP _ hg.1 hg.2⟩
theorem abs_sub {a b : Nat} (ha : a ≤ 99) (hb : b ≤ 99) : (if (0 : Int32) ≤ nI a - nI b then nI a - nI b else 0 - (nI a - nI b)) = nI (absD a b) := by
  unfold absD
  have e : (nI a - nI b).toInt = (a : Int) - b := by
    rw [Int32.toInt_sub, nI_T (by omega), nI_T (by omega)]
    exact Int.bmod_eq_of_le (by omega) (by omega)
  by_cases h : (0 : Int32) ≤ nI a - nI b
  · have := fa_le.mp h
    rw [e, t0] at this
    rw [if_pos h, if_pos (by omega)]
    exact nI_sub' (by omega)
  · have : ¬ (0 : Int) ≤ (nI a - nI b).toInt := fun q => h (fa_le.mpr q)
    rw [e] at this
    rw [if_neg h, if_neg (by omega)]
    apply Int32.toInt_inj.mp
    rw [Int32.toInt_sub, e, t0, nI_T (by omega)]
    rw [Int.bmod_eq_of_le (by omega) (by omega)]
    omega
set_option maxHeartbeats 8000000 in
theorem ct_Eye_seenBetween {s p q n : Nat} (hR : EC ε td c lD lL K g) (ok : KOk K) (wb : WB K) (hs : s + 1 < 6) (hp : p ≤ 6) (hq : q ≤ 6) (hn : n ≤ 4000) (hP : ∀ g', EC ε td c lD lL K g' → OffS (eyS ε td) g g' → P' g') : CV 7 0 0 mX2_seenBetween ε [.ref c, .int (nI s), .int (nI p), .int (nI q), .int (nI n)] g (fun v g' => v = some (.int (nI (sbN K (drL lD (kHe K)) (ltL lL) s p q n (kRo K)))) ∧ P' g') := by
  refine ⟨hR.1.V, ?_⟩
  refine ct_of (by decide) (fun _ _ => Nat.le_of_ble_eq_true rfl) ?_
  dsimp only [pad, ent]
  have hro : kRo K ≤ 6 := ok.1.2
  have hTro := nI_T (n := kRo K) (by omega)
  have L : ∀ k, k ≤ kRo K → AW (fun _ => True) (rmd 7 0 0) mX2_seenBetween 0 0 6 [some (.ref ε), some (.ref c), some (.int (nI s)), some (.int (nI p)), some (.int (nI q)), some (.int (nI n)), some (.int (nI (sbN K (drL lD (kHe K)) (ltL lL) s p q n k))), some (.int (nI k))] [] (fun g' => EC ε td c lD lL K g' ∧ OffS (eyS ε td) g g') (fun v g' => v = some (.int (nI (sbN K (drL lD (kHe K)) (ltL lL) s p q n (kRo K)))) ∧ P' g') := by
    refine up_loop ?_ ?_
    · skip
      refine r_iload (pc := 6) dX2_seenBetween_6 rfl ?_
      refine r_aload_n (pc := 8) dX2_seenBetween_8 rfl ?_
      refine r_Vi (pc := 9) (μ' := mX0_rows) dX2_seenBetween_9 nX2_64 iX0_rows vX0_rows kX0_rows rfl rfl (rr (by decide) rfl) rfl ⟨Nat.zero_le _, Nat.zero_le _⟩ (fun g' q => ct_Ceil_rows (q.1.2.1 : CeilI _ _ _ _ _ _ _ _ _ _ _ _) q) ?_
      refine r_icmp_ge (pc := 12) 68 dX2_seenBetween_12 (by decide) (fun c12 => ?_) (fun c12 => ?_)
      · skip
        refine r_iload (pc := 68) dX2_seenBetween_68 rfl ?_
        refine r_ireturn (pc := 70) (ty := .int) dX2_seenBetween_70 rfl rfl ⟨Nat.zero_le _, Nat.zero_le _⟩ (fun gE hg => ?_)
        exact ⟨rfl, hP _ hg.1 hg.2⟩
      · skip
        exact absurd (fa_le.mpr (Int.le_refl _)) c12
    · intro k hk ih
      have hTk := nI_T (n := k) (by omega)
      have hva := vE_rng ok k p
      have hvb := vE_rng ok k q
      have hab : absD (vE K k p) (vE K k q) < 100 := by unfold absD; split <;> omega
      refine r_iload (pc := 6) dX2_seenBetween_6 rfl ?_
      refine r_aload_n (pc := 8) dX2_seenBetween_8 rfl ?_
      refine r_Vi (pc := 9) (μ' := mX0_rows) dX2_seenBetween_9 nX2_64 iX0_rows vX0_rows kX0_rows rfl rfl (rr (by decide) rfl) rfl ⟨Nat.zero_le _, Nat.zero_le _⟩ (fun g' q => ct_Ceil_rows (q.1.2.1 : CeilI _ _ _ _ _ _ _ _ _ _ _ _) q) ?_
      refine r_icmp_ge (pc := 12) 68 dX2_seenBetween_12 (by decide) (fun c12 => ?_) (fun c12 => ?_)
      · skip
        exact absurd c12 (fun q => by have := fa_le.mp q; rw [hTk] at this; have : (nI (kRo K)).toInt ≤ (k : Int) := this; omega)
      · skip
        refine r_aload_n (pc := 15) dX2_seenBetween_15 rfl ?_
        refine r_aload_n (pc := 16) dX2_seenBetween_16 rfl ?_
        refine r_iload (pc := 17) dX2_seenBetween_17 rfl ?_
        refine r_iload_n (pc := 19) dX2_seenBetween_19 rfl ?_
        refine r_iload_n (pc := 20) dX2_seenBetween_20 rfl ?_
        refine r_iload (pc := 21) dX2_seenBetween_21 rfl ?_
        refine r_iload (pc := 23) dX2_seenBetween_23 rfl ?_
        refine r_Vi (pc := 25) (μ' := mX2_isSeam) dX2_seenBetween_25 nX2_67 iX2_isSeam vX2_isSeam kX2_isSeam rfl rfl (rr (by decide) rfl) rfl ⟨Nat.zero_le _, Nat.zero_le _⟩ (fun g' q => ct_Eye_isSeam (P' := fun g2 => EC ε td c lD lL K g2 ∧ OffS (eyS ε td) g g2) q.1 ok wb hk (by omega) hp hq (Or.inl hs) hn (fun g2 a b => ⟨a, q.2.tr b⟩)) ?_
        refine r_if_eq (pc := 28) 62 dX2_seenBetween_28 (by decide) (fun c28 => ?_) (fun c28 => ?_)
        · skip
          have e : sbN K (drL lD (kHe K)) (ltL lL) s p q n (k + 1) = sbN K (drL lD (kHe K)) (ltL lL) s p q n k := by rw [sbN, b2i_0.mp c28, if_neg Bool.false_ne_true, Nat.add_zero]
          try rw [← e]
          refine r_iinc1 (pc := 62) dX2_seenBetween_62 rfl (Nat.le_of_ble_eq_true rfl) rfl ?_
          dsimp only [lset]
          refine r_goto (pc := 65) 6 dX2_seenBetween_65 (by decide) ?_
          rw [nI_s]
          exact ih
        · skip
          have e : sbN K (drL lD (kHe K)) (ltL lL) s p q n (k + 1) = sbN K (drL lD (kHe K)) (ltL lL) s p q n k + ltL lL k s (absD (vE K k p) (vE K k q)) := by rw [sbN, if_pos (b2i_n0.mp c28)]
          refine r_iload (pc := 31) dX2_seenBetween_31 rfl ?_
          refine r_aload_n (pc := 33) dX2_seenBetween_33 rfl ?_
          refine r_iload (pc := 34) dX2_seenBetween_34 rfl ?_
          refine r_iload_n (pc := 36) dX2_seenBetween_36 rfl ?_
          refine r_aload_n (pc := 37) dX2_seenBetween_37 rfl ?_
          refine r_iload (pc := 38) dX2_seenBetween_38 rfl ?_
          refine r_iload_n (pc := 40) dX2_seenBetween_40 rfl ?_
          refine r_Vi (pc := 41) (μ' := mX0_whiteAt) dX2_seenBetween_41 nX2_55 iX0_whiteAt vX0_whiteAt kX0_whiteAt rfl rfl (rr (by decide) rfl) rfl ⟨Nat.zero_le _, Nat.zero_le _⟩ (fun g' q => ct_CK_whiteAt q.1.2.1 ok hk hp q) ?_
          refine r_aload_n (pc := 44) dX2_seenBetween_44 rfl ?_
          refine r_iload (pc := 45) dX2_seenBetween_45 rfl ?_
          refine r_iload (pc := 47) dX2_seenBetween_47 rfl ?_
          refine r_Vi (pc := 49) (μ' := mX0_whiteAt) dX2_seenBetween_49 nX2_55 iX0_whiteAt vX0_whiteAt kX0_whiteAt rfl rfl (rr (by decide) rfl) rfl ⟨Nat.zero_le _, Nat.zero_le _⟩ (fun g' q => ct_CK_whiteAt q.1.2.1 ok hk hq q) ?_
          refine r_isub (pc := 52) dX2_seenBetween_52 ?_
          refine r_mabs (pc := 53) dX2_seenBetween_53 nX2_71 ma_s_abs z_math ma_c_abs ⟨(Nat.le_of_ble_eq_true rfl), (Nat.le_of_ble_eq_true rfl)⟩ (Nat.le_of_ble_eq_true rfl) ⟨Nat.zero_le _, Nat.zero_le _⟩ rfl ?_
          rw [abs_sub hva hvb]
          refine r_Vi (pc := 56) (μ' := mX2_lightOf) dX2_seenBetween_56 nX2_76 iX2_lightOf vX2_lightOf kX2_lightOf rfl rfl (rr (by decide) rfl) rfl ⟨Nat.zero_le _, Nat.zero_le _⟩ (fun g' q => ct_Eye_lightOf (P' := fun g2 => EC ε td c lD lL K g2 ∧ OffS (eyS ε td) g g2) q.1.1 (show k < 6 by omega) (show s < 5 by omega) hab (fun g2 a b => ⟨q.1.on a b, q.2.tr b⟩)) ?_
          refine r_iadd (pc := 59) dX2_seenBetween_59 ?_
          rw [nI_add, show sbN K (drL lD (kHe K)) (ltL lL) s p q n k + lawN 1 lL k s (absD (vE K k p) (vE K k q)) = sbN K (drL lD (kHe K)) (ltL lL) s p q n (k + 1) from e.symm]
          refine r_istore (pc := 60) dX2_seenBetween_60 (Nat.le_of_ble_eq_true rfl) rfl ?_
          dsimp only [lset]
          try rw [← e]
          refine r_iinc1 (pc := 62) dX2_seenBetween_62 rfl (Nat.le_of_ble_eq_true rfl) rfl ?_
          dsimp only [lset]
          refine r_goto (pc := 65) 6 dX2_seenBetween_65 (by decide) ?_
          rw [nI_s]
          exact ih
  refine aw_P (P' := fun g' => EC ε td c lD lL K g' ∧ OffS (eyS ε td) g g') (fun g' e => by subst e; exact ⟨hR, OffS.rf _ _⟩) ?_
  refine r_iconst (pc := 0) (v := 0) dX2_seenBetween_0 (by decide) ?_
  refine r_istore (pc := 1) dX2_seenBetween_1 (Nat.le_of_ble_eq_true rfl) rfl ?_
  dsimp only [lset]
  refine r_iconst (pc := 3) (v := 0) dX2_seenBetween_3 (by decide) ?_
  refine r_istore (pc := 4) dX2_seenBetween_4 (Nat.le_of_ble_eq_true rfl) rfl ?_
  dsimp only [lset]
  exact L 0 (Nat.zero_le _)
set_option maxHeartbeats 8000000 in
theorem ct_Eye_seen (hR : EC ε td c lD lL K g) (ok : KOk K) (wb : WB K) (hP : ∀ g', EC ε td c lD lL K g' → OffS (eyS ε td) g g' → P' g') : CV 8 0 0 mX2_seen ε [.ref c] g (fun v g' => v = some (.int (nI (seenN K (drL lD (kHe K)) (ltL lL)))) ∧ P' g') := by
  refine ⟨hR.1.V, ?_⟩
  refine ct_of (by decide) (fun _ _ => Nat.le_of_ble_eq_true rfl) ?_
  dsimp only [pad, ent]
  have hst : 1 ≤ kSt K ∧ kSt K ≤ 6 := ok.2.1
  have hTst := nI_T (n := kSt K) (by omega)
  unfold seenN
  have L : ∀ k, k ≤ kSt K - 1 → AW (fun _ => True) (rmd 8 0 0) mX2_seen 0 0 4 [some (.ref ε), some (.ref c), some (.int (nI (seN K (drL lD (kHe K)) (ltL lL) k))), some (.int (nI k))] [] (fun g' => EC ε td c lD lL K g' ∧ OffS (eyS ε td) g g') (fun v g' => v = some (.int (nI (seN K (drL lD (kHe K)) (ltL lL) (kSt K - 1)))) ∧ P' g') := by
    refine up_loop ?_ ?_
    · skip
      refine r_iload_n (pc := 4) dX2_seen_4 rfl ?_
      refine r_iconst (pc := 5) (v := 1) dX2_seen_5 (by decide) ?_
      refine r_iadd (pc := 6) dX2_seen_6 ?_
      rw [nI_s, show kSt K - 1 + 1 = kSt K by omega]
      refine r_aload_n (pc := 7) dX2_seen_7 rfl ?_
      refine r_Vi (pc := 8) (μ' := mX0_strips) dX2_seen_8 nX2_79 iX0_strips vX0_strips kX0_strips rfl rfl (rr (by decide) rfl) rfl ⟨Nat.zero_le _, Nat.zero_le _⟩ (fun g' q => ct_Ceil_strips (q.1.2.1 : CeilI _ _ _ _ _ _ _ _ _ _ _ _) q) ?_
      refine r_icmp_ge (pc := 11) 34 dX2_seen_11 (by decide) (fun c11 => ?_) (fun c11 => ?_)
      · skip
        refine r_iload_n (pc := 34) dX2_seen_34 rfl ?_
        refine r_ireturn (pc := 35) (ty := .int) dX2_seen_35 rfl rfl ⟨Nat.zero_le _, Nat.zero_le _⟩ (fun gE hg => ?_)
        exact ⟨rfl, hP _ hg.1 hg.2⟩
      · skip
        exact absurd (fa_le.mpr (Int.le_refl _)) c11
    · intro k hk ih
      have hTk := nI_T (n := k + 1) (by omega)
      refine r_iload_n (pc := 4) dX2_seen_4 rfl ?_
      refine r_iconst (pc := 5) (v := 1) dX2_seen_5 (by decide) ?_
      refine r_iadd (pc := 6) dX2_seen_6 ?_
      rw [nI_s]
      refine r_aload_n (pc := 7) dX2_seen_7 rfl ?_
      refine r_Vi (pc := 8) (μ' := mX0_strips) dX2_seen_8 nX2_79 iX0_strips vX0_strips kX0_strips rfl rfl (rr (by decide) rfl) rfl ⟨Nat.zero_le _, Nat.zero_le _⟩ (fun g' q => ct_Ceil_strips (q.1.2.1 : CeilI _ _ _ _ _ _ _ _ _ _ _ _) q) ?_
      refine r_icmp_ge (pc := 11) 34 dX2_seen_11 (by decide) (fun c11 => ?_) (fun c11 => ?_)
      · skip
        exact absurd c11 (fun q => by have := fa_le.mp q; rw [hTk] at this; have : (nI (kSt K)).toInt ≤ ((k + 1 : Nat) : Int) := this; omega)
      · skip
        refine r_iload_n (pc := 14) dX2_seen_14 rfl ?_
        refine r_aload_n (pc := 15) dX2_seen_15 rfl ?_
        refine r_aload_n (pc := 16) dX2_seen_16 rfl ?_
        refine r_iload_n (pc := 17) dX2_seen_17 rfl ?_
        refine r_iload_n (pc := 18) dX2_seen_18 rfl ?_
        refine r_iload_n (pc := 19) dX2_seen_19 rfl ?_
        refine r_iconst (pc := 20) (v := 1) dX2_seen_20 (by decide) ?_
        refine r_iadd (pc := 21) dX2_seen_21 ?_
        rw [nI_s]
        refine r_iconst (pc := 22) (v := 0) dX2_seen_22 (by decide) ?_
        rw [← nI_0]
        refine r_Vi (pc := 23) (μ' := mX2_seenBetween) dX2_seen_23 nX2_82 iX2_seenBetween vX2_seenBetween kX2_seenBetween rfl rfl (rr (by decide) rfl) rfl ⟨Nat.zero_le _, Nat.zero_le _⟩ (fun g' q => ct_Eye_seenBetween (P' := fun g2 => EC ε td c lD lL K g2 ∧ OffS (eyS ε td) g g2) q.1 ok wb (by omega) (by omega) (by omega) (by omega) (fun g2 a b => ⟨a, q.2.tr b⟩)) ?_
        refine r_iadd (pc := 26) dX2_seen_26 ?_
        rw [nI_add]
        refine r_istore_n (pc := 27) dX2_seen_27 rfl (Nat.le_of_ble_eq_true rfl) rfl ?_
        dsimp only [lset]
        refine r_iinc1 (pc := 28) dX2_seen_28 rfl (Nat.le_of_ble_eq_true rfl) rfl ?_
        dsimp only [lset]
        refine r_goto (pc := 31) 4 dX2_seen_31 (by decide) ?_
        rw [nI_s]
        exact ih
  refine aw_P (P' := fun g' => EC ε td c lD lL K g' ∧ OffS (eyS ε td) g g') (fun g' e => by subst e; exact ⟨hR, OffS.rf _ _⟩) ?_
  refine r_iconst (pc := 0) (v := 0) dX2_seen_0 (by decide) ?_
  refine r_istore_n (pc := 1) dX2_seen_1 rfl (Nat.le_of_ble_eq_true rfl) rfl ?_
  dsimp only [lset]
  refine r_iconst (pc := 2) (v := 0) dX2_seen_2 (by decide) ?_
  refine r_istore_n (pc := 3) dX2_seen_3 rfl (Nat.le_of_ble_eq_true rfl) rfl ?_
  dsimp only [lset]
  exact L 0 (Nat.zero_le _)
set_option maxHeartbeats 8000000 in
theorem ct_Eye_countSeams (hR : EC ε td c lD lL K g) (ok : KOk K) (wb : WB K) (hP : ∀ g', EC ε td c lD lL K g' → OffS (eyS ε td) g g' → P' g') : CV 8 0 0 mX2_countSeams ε [.ref c] g (fun v g' => v = some (.int (nI (cnR K (drL lD (kHe K)) (kRo K)))) ∧ P' g') := by
  refine ⟨hR.1.V, ?_⟩
  refine ct_of (by decide) (fun _ _ => Nat.le_of_ble_eq_true rfl) ?_
  dsimp only [pad, ent]
  have hst : 1 ≤ kSt K ∧ kSt K ≤ 6 := ok.2.1
  have hro : kRo K ≤ 6 := ok.1.2
  have hTst := nI_T (n := kSt K) (by omega)
  have hTro := nI_T (n := kRo K) (by omega)
  have L : ∀ k, k ≤ kRo K → AW (fun _ => True) (rmd 8 0 0) mX2_countSeams 0 0 4 [some (.ref ε), some (.ref c), some (.int (nI (cnR K (drL lD (kHe K)) k))), some (.int (nI k)), none] [] (fun g' => EC ε td c lD lL K g' ∧ OffS (eyS ε td) g g') (fun v g' => v = some (.int (nI (cnR K (drL lD (kHe K)) (kRo K)))) ∧ P' g') := by
    refine up_loop ?_ ?_
    · skip
      refine r_iload_n (pc := 4) dX2_countSeams_4 rfl ?_
      refine r_aload_n (pc := 5) dX2_countSeams_5 rfl ?_
      refine r_Vi (pc := 6) (μ' := mX0_rows) dX2_countSeams_6 nX2_64 iX0_rows vX0_rows kX0_rows rfl rfl (rr (by decide) rfl) rfl ⟨Nat.zero_le _, Nat.zero_le _⟩ (fun g' q => ct_Ceil_rows (q.1.2.1 : CeilI _ _ _ _ _ _ _ _ _ _ _ _) q) ?_
      refine r_icmp_ge (pc := 9) 59 dX2_countSeams_9 (by decide) (fun c9 => ?_) (fun c9 => ?_)
      · skip
        refine r_iload_n (pc := 59) dX2_countSeams_59 rfl ?_
        refine r_ireturn (pc := 60) (ty := .int) dX2_countSeams_60 rfl rfl ⟨Nat.zero_le _, Nat.zero_le _⟩ (fun gE hg => ?_)
        exact ⟨rfl, hP _ hg.1 hg.2⟩
      · skip
        exact absurd (fa_le.mpr (Int.le_refl _)) c9
    · intro k hk ih
      have hTk := nI_T (n := k) (by omega)
      have M : ∀ t, t ≤ kSt K - 1 → AW (fun _ => True) (rmd 8 0 0) mX2_countSeams 0 0 15 [some (.ref ε), some (.ref c), some (.int (nI (cnR K (drL lD (kHe K)) k + cnS K (drL lD (kHe K)) k t))), some (.int (nI k)), some (.int (nI t))] [] (fun g' => EC ε td c lD lL K g' ∧ OffS (eyS ε td) g g') (fun v g' => v = some (.int (nI (cnR K (drL lD (kHe K)) (kRo K)))) ∧ P' g') := by
        refine up_loop ?_ ?_
        · skip
          refine r_iload (pc := 15) dX2_countSeams_15 rfl ?_
          refine r_iconst (pc := 17) (v := 1) dX2_countSeams_17 (by decide) ?_
          refine r_iadd (pc := 18) dX2_countSeams_18 ?_
          rw [nI_s, show kSt K - 1 + 1 = kSt K by omega]
          refine r_aload_n (pc := 19) dX2_countSeams_19 rfl ?_
          refine r_Vi (pc := 20) (μ' := mX0_strips) dX2_countSeams_20 nX2_79 iX0_strips vX0_strips kX0_strips rfl rfl (rr (by decide) rfl) rfl ⟨Nat.zero_le _, Nat.zero_le _⟩ (fun g' q => ct_Ceil_strips (q.1.2.1 : CeilI _ _ _ _ _ _ _ _ _ _ _ _) q) ?_
          refine r_icmp_ge (pc := 23) 53 dX2_countSeams_23 (by decide) (fun c23 => ?_) (fun c23 => ?_)
          · skip
            refine r_iinc1 (pc := 53) dX2_countSeams_53 rfl (Nat.le_of_ble_eq_true rfl) rfl ?_
            dsimp only [lset]
            refine r_goto (pc := 56) 4 dX2_countSeams_56 (by decide) ?_
            rw [nI_s]
            exact aw_dr 4 rfl ih
          · skip
            exact absurd (fa_le.mpr (Int.le_refl _)) c23
        · intro t ht iht
          have hTt := nI_T (n := t + 1) (by omega)
          refine r_iload (pc := 15) dX2_countSeams_15 rfl ?_
          refine r_iconst (pc := 17) (v := 1) dX2_countSeams_17 (by decide) ?_
          refine r_iadd (pc := 18) dX2_countSeams_18 ?_
          rw [nI_s]
          refine r_aload_n (pc := 19) dX2_countSeams_19 rfl ?_
          refine r_Vi (pc := 20) (μ' := mX0_strips) dX2_countSeams_20 nX2_79 iX0_strips vX0_strips kX0_strips rfl rfl (rr (by decide) rfl) rfl ⟨Nat.zero_le _, Nat.zero_le _⟩ (fun g' q => ct_Ceil_strips (q.1.2.1 : CeilI _ _ _ _ _ _ _ _ _ _ _ _) q) ?_
          refine r_icmp_ge (pc := 23) 53 dX2_countSeams_23 (by decide) (fun c23 => ?_) (fun c23 => ?_)
          · skip
            exact absurd c23 (fun q => by have := fa_le.mp q; rw [hTt] at this; have : (nI (kSt K)).toInt ≤ ((t + 1 : Nat) : Int) := this; omega)
          · skip
            refine r_aload_n (pc := 26) dX2_countSeams_26 rfl ?_
            refine r_aload_n (pc := 27) dX2_countSeams_27 rfl ?_
            refine r_iload_n (pc := 28) dX2_countSeams_28 rfl ?_
            refine r_iload (pc := 29) dX2_countSeams_29 rfl ?_
            refine r_iload (pc := 31) dX2_countSeams_31 rfl ?_
            refine r_iload (pc := 33) dX2_countSeams_33 rfl ?_
            refine r_iconst (pc := 35) (v := 1) dX2_countSeams_35 (by decide) ?_
            refine r_iadd (pc := 36) dX2_countSeams_36 ?_
            rw [nI_s]
            refine r_iconst (pc := 37) (v := 0) dX2_countSeams_37 (by decide) ?_
            rw [← nI_0]
            refine r_Vi (pc := 38) (μ' := mX2_isSeam) dX2_countSeams_38 nX2_67 iX2_isSeam vX2_isSeam kX2_isSeam rfl rfl (rr (by decide) rfl) rfl ⟨Nat.zero_le _, Nat.zero_le _⟩ (fun g' q => ct_Eye_isSeam (P' := fun g2 => EC ε td c lD lL K g2 ∧ OffS (eyS ε td) g g2) q.1 ok wb hk (by omega) (by omega) (by omega) (Or.inl (by omega)) (by omega) (fun g2 a b => ⟨a, q.2.tr b⟩)) ?_
            refine r_if_eq (pc := 41) 47 dX2_countSeams_41 (by decide) (fun c41 => ?_) (fun c41 => ?_)
            · skip
              have e : cnS K (drL lD (kHe K)) k (t + 1) = cnS K (drL lD (kHe K)) k t := by rw [cnS, b2i_0.mp c41, if_neg Bool.false_ne_true, Nat.add_zero]
              try rw [nI_s, Nat.add_assoc]
              rw [← e]
              refine r_iinc1 (pc := 47) dX2_countSeams_47 rfl (Nat.le_of_ble_eq_true rfl) rfl ?_
              dsimp only [lset]
              refine r_goto (pc := 50) 15 dX2_countSeams_50 (by decide) ?_
              rw [nI_s]
              exact iht
            · skip
              have e : cnS K (drL lD (kHe K)) k (t + 1) = cnS K (drL lD (kHe K)) k t + 1 := by rw [cnS, if_pos (b2i_n0.mp c41)]
              refine r_iinc1 (pc := 44) dX2_countSeams_44 rfl (Nat.le_of_ble_eq_true rfl) rfl ?_
              dsimp only [lset]
              try rw [nI_s, Nat.add_assoc]
              rw [← e]
              refine r_iinc1 (pc := 47) dX2_countSeams_47 rfl (Nat.le_of_ble_eq_true rfl) rfl ?_
              dsimp only [lset]
              refine r_goto (pc := 50) 15 dX2_countSeams_50 (by decide) ?_
              rw [nI_s]
              exact iht
      refine r_iload_n (pc := 4) dX2_countSeams_4 rfl ?_
      refine r_aload_n (pc := 5) dX2_countSeams_5 rfl ?_
      refine r_Vi (pc := 6) (μ' := mX0_rows) dX2_countSeams_6 nX2_64 iX0_rows vX0_rows kX0_rows rfl rfl (rr (by decide) rfl) rfl ⟨Nat.zero_le _, Nat.zero_le _⟩ (fun g' q => ct_Ceil_rows (q.1.2.1 : CeilI _ _ _ _ _ _ _ _ _ _ _ _) q) ?_
      refine r_icmp_ge (pc := 9) 59 dX2_countSeams_9 (by decide) (fun c9 => ?_) (fun c9 => ?_)
      · skip
        exact absurd c9 (fun q => by have := fa_le.mp q; rw [hTk] at this; have : (nI (kRo K)).toInt ≤ (k : Int) := this; omega)
      · skip
        refine r_iconst (pc := 12) (v := 0) dX2_countSeams_12 (by decide) ?_
        refine r_istore (pc := 13) dX2_countSeams_13 (Nat.le_of_ble_eq_true rfl) rfl ?_
        dsimp only [lset]
        exact M 0 (Nat.zero_le _)
  refine aw_P (P' := fun g' => EC ε td c lD lL K g' ∧ OffS (eyS ε td) g g') (fun g' e => by subst e; exact ⟨hR, OffS.rf _ _⟩) ?_
  refine r_iconst (pc := 0) (v := 0) dX2_countSeams_0 (by decide) ?_
  refine r_istore_n (pc := 1) dX2_countSeams_1 rfl (Nat.le_of_ble_eq_true rfl) rfl ?_
  dsimp only [lset]
  refine r_iconst (pc := 2) (v := 0) dX2_countSeams_2 (by decide) ?_
  refine r_istore_n (pc := 3) dX2_countSeams_3 rfl (Nat.le_of_ble_eq_true rfl) rfl ?_
  dsimp only [lset]
  exact L 0 (Nat.zero_le _)
end Sm
