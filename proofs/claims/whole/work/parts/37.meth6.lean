/-! THE WHOLE (OneGoCeiling): called, worst, order -/
def caG (R : CK) (lD lL : List Int32) (n : Nat) (s : Int32) : Int32 := caI (swL R lD lL 0 (kSt R - 1)) (swL R lD lL n (kSt R - 1)) s (kSt R - 1)
def woG (R : CK) (lD lL : List Int32) (n : Nat) : Nat := woI (swL R lD lL 0 (kSt R - 1)) (swL R lD lL n (kSt R - 1)) (kSt R) (kSt R - 2)
def SB0 (R : CK) (lD lL : List Int32) : Nat → Nat → Nat → Nat := fun s p q => SB R lD lL s p q 0
theorem WPok.ws {R : CK} {lD lL sb : List Int32} (ok : KOk R) (h : WPok R lD lL 216 sb) : WsOk (kSt R) (SB0 R lD lL) sb := fun s p q h1 h2 h3 h4 => h.2 s p q h1 h2 h3 h4 (by have : 1 ≤ kSt R ∧ kSt R ≤ 6 := ok.2.1; omega)
section Meth6
variable {o : Nat} {K K9 R : CK} {hs hs9 : List (Nat × Nat)} {lD lL tp wa hd er sp pl bs sb sw sx : List Int32} {z im be : Int32} {k : NS} {bt : Nat → Int32} {sh : Nat → List Int32} {h g : AH} {Q : Option Value → AH → Prop}
set_option maxHeartbeats 8000000 in
theorem ct_G_called {a b c : Int32} (q : GA o K hs lD lL tp wa z k bt sh hd er im g) (ok : KOk K) (tb : TB K 9999 9999) (hok : HOk hs) (e1 : (hdB hs a && laB K b && wiB c 0 500) = false → ∀ g', GA o K hs lD lL tp wa z k bt sh hd (errL er 1) im g' → Off o 95 g g' → Q (some (.int (-1000000000 - 1))) g') (hP : ∀ i n, a = nI i → i < hs.length → laB K b = true → c = nI n → n ≤ 500 → ∀ g', GA o K hs lD lL tp wa z k bt sh hd er im g' → Off o 95 g g' → Q (some (.int (caG (thR K hs i) lD lL n b))) g') : CV 10 0 0 mX11_called o [.int a, .int b, .int c] g Q := by
  refine ⟨q.V, ?_⟩
  refine ct_of (by decide) (fun _ _ => Nat.le_of_ble_eq_true rfl) ?_
  dsimp only [pad, ent]
  have hst : 1 ≤ kSt K ∧ kSt K ≤ 6 := ok.2.1
  refine aw_P (P' := fun g' => GA o K hs lD lL tp wa z k bt sh hd er im g' ∧ Off o 95 g g') (fun g' e => by subst e; exact ⟨q, Off.rf _ _ _⟩) ?_
  refine r_aload_n (pc := 0) dX11_called_0 rfl ?_
  refine r_getf (pc := 1) (k := 0) dX11_called_1 hX11 eX11 (by decide) fX11_10 (fun _ q => q.1.oo) rfl ?_
  refine r_getf (pc := 4) (k := 1) dX11_called_4 hX7 eX7 (by decide) fX11_140 (fun _ q => q.1.s) rfl ?_
  refine r_iload_n (pc := 7) dX11_called_7 rfl ?_
  refine r_Vi (pc := 8) (μ' := mX1_has) dX11_called_8 nX11_153 iX1_has vX1_has kX1_has rfl rfl (rr (by omega) rfl) rfl ⟨Nat.zero_le _, Nat.zero_le _⟩ (fun g' q => ct_Crew_has q.1.W q) ?_
  refine r_if_eq (pc := 11) 33 dX11_called_11 (by decide) (fun c11 => ?_) (fun c11 => ?_)
  · skip
    have k1 : hdB hs a = false := b2i_0.mp c11
    refine r_aload_n (pc := 33) dX11_called_33 rfl ?_
    refine r_iconst (pc := 34) (v := 1) dX11_called_34 (by decide) ?_
    refine r_Vi (pc := 35) (μ' := mX11_error) dX11_called_35 nX11_88 iX11_error vX11_error kX11_error rfl rfl (rr (by omega) rfl) rfl ⟨Nat.zero_le _, Nat.zero_le _⟩ (fun g' q => ct_G_error (P' := fun g2 => Q (some (.int (-1000000000 - 1))) g2) q.1 (fun g2 a b => e1 (by first | (rw [k1]; rfl) | (rw [k1, k2]; rfl) | (rw [k1, k2, k3]; rfl)) g2 a (q.2.tr b))) ?_
    refine r_ireturn (pc := 38) (ty := .int) dX11_called_38 rfl rfl ⟨Nat.zero_le _, Nat.zero_le _⟩ (fun gE hg => ?_)
    exact hg
  · skip
    have k1 : hdB hs a = true := b2i_n0.mp c11
    refine r_aload_n (pc := 14) dX11_called_14 rfl ?_
    refine r_iload_n (pc := 15) dX11_called_15 rfl ?_
    refine r_Vi (pc := 16) (μ' := mX11_isLaterStrip) dX11_called_16 nX11_279 iX11_isLaterStrip vX11_isLaterStrip kX11_isLaterStrip rfl rfl (rr (by omega) rfl) rfl ⟨Nat.zero_le _, Nat.zero_le _⟩ (fun g' q => ct_G_isLaterStrip q.1 ok q) ?_
    refine r_if_eq (pc := 19) 33 dX11_called_19 (by decide) (fun c19 => ?_) (fun c19 => ?_)
    · skip
      have k2 := b2i_0.mp c19
      refine r_aload_n (pc := 33) dX11_called_33 rfl ?_
      refine r_iconst (pc := 34) (v := 1) dX11_called_34 (by decide) ?_
      refine r_Vi (pc := 35) (μ' := mX11_error) dX11_called_35 nX11_88 iX11_error vX11_error kX11_error rfl rfl (rr (by omega) rfl) rfl ⟨Nat.zero_le _, Nat.zero_le _⟩ (fun g' q => ct_G_error (P' := fun g2 => Q (some (.int (-1000000000 - 1))) g2) q.1 (fun g2 a b => e1 (by first | (rw [k1]; rfl) | (rw [k1, k2]; rfl) | (rw [k1, k2, k3]; rfl)) g2 a (q.2.tr b))) ?_
      refine r_ireturn (pc := 38) (ty := .int) dX11_called_38 rfl rfl ⟨Nat.zero_le _, Nat.zero_le _⟩ (fun gE hg => ?_)
      exact hg
    · skip
      have k2 := b2i_n0.mp c19
      refine r_iload_n (pc := 22) dX11_called_22 rfl ?_
      refine r_iconst (pc := 23) (v := 0) dX11_called_23 (by decide) ?_
      refine r_sipush (pc := 24) (v := 500) dX11_called_24 (by decide) ?_
      refine r_Sp (pc := 27) (μ' := mX11_within) dX11_called_27 nX11_84 sX11_within kX11_within rfl rfl (rr (by omega) rfl) rfl ⟨Nat.zero_le _, Nat.zero_le _⟩ (fun h => ct_G_within h) ?_
      refine r_if_ne (pc := 30) 39 dX11_called_30 (by decide) (fun c30 => ?_) (fun c30 => ?_)
      · skip
        have k3 := b2i_n0.mp c30
        obtain ⟨i, hi, hi2⟩ := hd_t k1 hok
        obtain ⟨n, hn, hn2⟩ := wi_nat k3 (by decide)
        have hn3 : n ≤ 500 := by rw [show (500 : Int32).toInt = 500 from rfl] at hn2; omega
        obtain ⟨r1, r2, r3, r4, r5⟩ := thR_ok ok tb hok hi2
        refine r_aload_n (pc := 39) dX11_called_39 rfl ?_
        refine r_getf (pc := 40) (k := 4) dX11_called_40 hX11 eX11 (by decide) fX11_47 (fun _ q => q.1.oo) rfl ?_
        refine r_aload_n (pc := 43) dX11_called_43 rfl ?_
        refine r_getf (pc := 44) (k := 0) dX11_called_44 hX11 eX11 (by decide) fX11_10 (fun _ q => q.1.oo) rfl ?_
        refine r_iload_n (pc := 47) dX11_called_47 rfl ?_
        rw [hi]
        refine r_Vv (pc := 48) (μ' := mX9_rollAll) dX11_called_48 nX11_256 iX9_rollAll vX9_rollAll kX9_rollAll rfl rfl (rr (by omega) rfl) rfl ⟨Nat.zero_le _, Nat.zero_le _⟩ (fun g' q => rollAll_G q ok hok hi2 (fun g2 x => x)) ?_
        refine aw_ex fun be => aw_ex fun sp => aw_ex fun pl => aw_ex fun bs => aw_ex fun sb => aw_ex fun sw => aw_ex fun sx => ?_
        refine r_aload_n (pc := 51) dX11_called_51 rfl ?_
        refine r_getf (pc := 52) (k := 4) dX11_called_52 hX11 eX11 (by decide) fX11_47 (fun _ q => q.1.oo) rfl ?_
        refine r_iload_n (pc := 55) dX11_called_55 rfl ?_
        rw [hn]
        refine r_Vv (pc := 56) (μ' := mX9_weighPauses) dX11_called_56 nX11_282 iX9_weighPauses vX9_weighPauses kX9_weighPauses rfl rfl (rr (by omega) rfl) rfl ⟨Nat.zero_le _, Nat.zero_le _⟩ (fun g' q => weighP_G q r1 r5 (by omega) (fun g2 x => x)) ?_
        refine r_aload_n (pc := 59) dX11_called_59 rfl ?_
        refine r_getf (pc := 60) (k := 4) dX11_called_60 hX11 eX11 (by decide) fX11_47 (fun _ q => q.1.oo) rfl ?_
        refine r_iload_n (pc := 63) dX11_called_63 rfl ?_
        refine r_Vi (pc := 64) (μ' := mX9_seenCalledAhead) dX11_called_64 nX11_285 iX9_seenCalledAhead vX9_seenCalledAhead kX9_seenCalledAhead rfl rfl (rr (by omega) rfl) rfl ⟨Nat.zero_le _, Nat.zero_le _⟩ (fun g' q => ct_Th_seenCalledAhead q.1.2 r1 q) ?_
        refine r_ireturn (pc := 67) (ty := .int) dX11_called_67 rfl rfl ⟨Nat.zero_le _, Nat.zero_le _⟩ (fun gE hg => ?_)
        exact hP i n hi hi2 k2 hn hn3 _ hg.1.1 hg.2
      · skip
        have k3 := b2i_0.mp c30
        refine r_aload_n (pc := 33) dX11_called_33 rfl ?_
        refine r_iconst (pc := 34) (v := 1) dX11_called_34 (by decide) ?_
        refine r_Vi (pc := 35) (μ' := mX11_error) dX11_called_35 nX11_88 iX11_error vX11_error kX11_error rfl rfl (rr (by omega) rfl) rfl ⟨Nat.zero_le _, Nat.zero_le _⟩ (fun g' q => ct_G_error (P' := fun g2 => Q (some (.int (-1000000000 - 1))) g2) q.1 (fun g2 a b => e1 (by first | (rw [k1]; rfl) | (rw [k1, k2]; rfl) | (rw [k1, k2, k3]; rfl)) g2 a (q.2.tr b))) ?_
        refine r_ireturn (pc := 38) (ty := .int) dX11_called_38 rfl rfl ⟨Nat.zero_le _, Nat.zero_le _⟩ (fun gE hg => ?_)
        exact hg
set_option maxHeartbeats 8000000 in
theorem ct_G_worst {a b c : Int32} (q : GA o K hs lD lL tp wa z k bt sh hd er im g) (ok : KOk K) (tb : TB K 9999 9999) (hok : HOk hs) (e1 : (hdB hs a && wiB b 0 500 && wiB c 0 1) = false → ∀ g', GA o K hs lD lL tp wa z k bt sh hd (errL er 1) im g' → Off o 95 g g' → Q (some (.int (-1000000000 - 1))) g') (e2 : (hdB hs a && wiB b 0 500 && wiB c 0 1) = true → kSt K = 1 → ∀ g', GA o K hs lD lL tp wa z k bt sh hd (errL er 2) im g' → Off o 95 g g' → Q (some (.int (-1000000000 - 2))) g') (hP : ∀ i n, a = nI i → i < hs.length → b = nI n → n ≤ 500 → wiB c 0 1 = true → 2 ≤ kSt K → ∀ g', GA o K hs lD lL tp wa z k bt sh hd er im g' → Off o 95 g g' → Q (some (.int (if c = 0 then nI (woG (thR K hs i) lD lL n) else caG (thR K hs i) lD lL n (nI (woG (thR K hs i) lD lL n))))) g') : CV 10 0 0 mX11_worst o [.int a, .int b, .int c] g Q := by
  refine ⟨q.V, ?_⟩
  refine ct_of (by decide) (fun _ _ => Nat.le_of_ble_eq_true rfl) ?_
  dsimp only [pad, ent]
  have hst : 1 ≤ kSt K ∧ kSt K ≤ 6 := ok.2.1
  have hTst := nI_T (n := kSt K) (by omega)
  have hTs : (nI K.2.1).toInt = (kSt K : Int) := hTst
  refine aw_P (P' := fun g' => GA o K hs lD lL tp wa z k bt sh hd er im g' ∧ Off o 95 g g') (fun g' e => by subst e; exact ⟨q, Off.rf _ _ _⟩) ?_
  refine r_aload_n (pc := 0) dX11_worst_0 rfl ?_
  refine r_getf (pc := 1) (k := 0) dX11_worst_1 hX11 eX11 (by decide) fX11_10 (fun _ q => q.1.oo) rfl ?_
  refine r_getf (pc := 4) (k := 1) dX11_worst_4 hX7 eX7 (by decide) fX11_140 (fun _ q => q.1.s) rfl ?_
  refine r_iload_n (pc := 7) dX11_worst_7 rfl ?_
  refine r_Vi (pc := 8) (μ' := mX1_has) dX11_worst_8 nX11_153 iX1_has vX1_has kX1_has rfl rfl (rr (by omega) rfl) rfl ⟨Nat.zero_le _, Nat.zero_le _⟩ (fun g' q => ct_Crew_has q.1.W q) ?_
  refine r_if_eq (pc := 11) 34 dX11_worst_11 (by decide) (fun c11 => ?_) (fun c11 => ?_)
  · skip
    have k1 : hdB hs a = false := b2i_0.mp c11
    refine r_aload_n (pc := 34) dX11_worst_34 rfl ?_
    refine r_iconst (pc := 35) (v := 1) dX11_worst_35 (by decide) ?_
    refine r_Vi (pc := 36) (μ' := mX11_error) dX11_worst_36 nX11_88 iX11_error vX11_error kX11_error rfl rfl (rr (by omega) rfl) rfl ⟨Nat.zero_le _, Nat.zero_le _⟩ (fun g' q => ct_G_error (P' := fun g2 => Q (some (.int (-1000000000 - 1))) g2) q.1 (fun g2 a b => e1 (by first | (rw [k1]; rfl) | (rw [k1, k2]; rfl) | (rw [k1, k2, k3]; rfl)) g2 a (q.2.tr b))) ?_
    refine r_ireturn (pc := 39) (ty := .int) dX11_worst_39 rfl rfl ⟨Nat.zero_le _, Nat.zero_le _⟩ (fun gE hg => ?_)
    exact hg
  · skip
    have k1 : hdB hs a = true := b2i_n0.mp c11
    refine r_iload_n (pc := 14) dX11_worst_14 rfl ?_
    refine r_iconst (pc := 15) (v := 0) dX11_worst_15 (by decide) ?_
    refine r_sipush (pc := 16) (v := 500) dX11_worst_16 (by decide) ?_
    refine r_Sp (pc := 19) (μ' := mX11_within) dX11_worst_19 nX11_84 sX11_within kX11_within rfl rfl (rr (by omega) rfl) rfl ⟨Nat.zero_le _, Nat.zero_le _⟩ (fun h => ct_G_within h) ?_
    refine r_if_eq (pc := 22) 34 dX11_worst_22 (by decide) (fun c22 => ?_) (fun c22 => ?_)
    · skip
      have k2 := b2i_0.mp c22
      refine r_aload_n (pc := 34) dX11_worst_34 rfl ?_
      refine r_iconst (pc := 35) (v := 1) dX11_worst_35 (by decide) ?_
      refine r_Vi (pc := 36) (μ' := mX11_error) dX11_worst_36 nX11_88 iX11_error vX11_error kX11_error rfl rfl (rr (by omega) rfl) rfl ⟨Nat.zero_le _, Nat.zero_le _⟩ (fun g' q => ct_G_error (P' := fun g2 => Q (some (.int (-1000000000 - 1))) g2) q.1 (fun g2 a b => e1 (by first | (rw [k1]; rfl) | (rw [k1, k2]; rfl) | (rw [k1, k2, k3]; rfl)) g2 a (q.2.tr b))) ?_
      refine r_ireturn (pc := 39) (ty := .int) dX11_worst_39 rfl rfl ⟨Nat.zero_le _, Nat.zero_le _⟩ (fun gE hg => ?_)
      exact hg
    · skip
      have k2 := b2i_n0.mp c22
      refine r_iload_n (pc := 25) dX11_worst_25 rfl ?_
      refine r_iconst (pc := 26) (v := 0) dX11_worst_26 (by decide) ?_
      refine r_iconst (pc := 27) (v := 1) dX11_worst_27 (by decide) ?_
      refine r_Sp (pc := 28) (μ' := mX11_within) dX11_worst_28 nX11_84 sX11_within kX11_within rfl rfl (rr (by omega) rfl) rfl ⟨Nat.zero_le _, Nat.zero_le _⟩ (fun h => ct_G_within h) ?_
      refine r_if_ne (pc := 31) 40 dX11_worst_31 (by decide) (fun c31 => ?_) (fun c31 => ?_)
      · skip
        have k3 := b2i_n0.mp c31
        obtain ⟨i, hi, hi2⟩ := hd_t k1 hok
        obtain ⟨n, hn, hn2⟩ := wi_nat k2 (by decide)
        have hn3 : n ≤ 500 := by rw [show (500 : Int32).toInt = 500 from rfl] at hn2; omega
        obtain ⟨r1, r2, r3, r4, r5⟩ := thR_ok ok tb hok hi2
        refine r_aload_n (pc := 40) dX11_worst_40 rfl ?_
        refine r_getf (pc := 41) (k := 0) dX11_worst_41 hX11 eX11 (by decide) fX11_10 (fun _ q => q.1.oo) rfl ?_
        refine r_getf (pc := 44) (k := 0) dX11_worst_44 hX7 eX7 (by decide) fX11_92 (fun _ q => q.1.s) rfl ?_
        refine r_Vi (pc := 47) (μ' := mX0_strips) dX11_worst_47 nX11_249 iX0_strips vX0_strips kX0_strips rfl rfl (rr (by omega) rfl) rfl ⟨Nat.zero_le _, Nat.zero_le _⟩ (fun g' q => ct_Ceil_strips (q.1.Ci : CeilI _ _ _ _ _ _ _ _ _ _ _ _) q) ?_
        refine r_iconst (pc := 50) (v := 1) dX11_worst_50 (by decide) ?_
        refine r_icmp_ne (pc := 51) 60 dX11_worst_51 (by decide) (fun c51 => ?_) (fun c51 => ?_)
        · skip
          have h2 : 2 ≤ kSt K := by
            have : ¬ (nI K.2.1).toInt = (1 : Int32).toInt := fun x => c51 (fa_eq.mpr x)
            rw [hTs, t1] at this
            omega
          have h7 := hP i n hi hi2 hn hn3 k3 h2
          refine r_aload_n (pc := 60) dX11_worst_60 rfl ?_
          refine r_getf (pc := 61) (k := 4) dX11_worst_61 hX11 eX11 (by decide) fX11_47 (fun _ q => q.1.oo) rfl ?_
          refine r_aload_n (pc := 64) dX11_worst_64 rfl ?_
          refine r_getf (pc := 65) (k := 0) dX11_worst_65 hX11 eX11 (by decide) fX11_10 (fun _ q => q.1.oo) rfl ?_
          refine r_iload_n (pc := 68) dX11_worst_68 rfl ?_
          rw [hi]
          refine r_Vv (pc := 69) (μ' := mX9_rollAll) dX11_worst_69 nX11_256 iX9_rollAll vX9_rollAll kX9_rollAll rfl rfl (rr (by omega) rfl) rfl ⟨Nat.zero_le _, Nat.zero_le _⟩ (fun g' q => rollAll_G q ok hok hi2 (fun g2 x => x)) ?_
          refine aw_ex fun be => aw_ex fun sp => aw_ex fun pl => aw_ex fun bs => aw_ex fun sb => aw_ex fun sw => aw_ex fun sx => ?_
          refine r_aload_n (pc := 72) dX11_worst_72 rfl ?_
          refine r_getf (pc := 73) (k := 4) dX11_worst_73 hX11 eX11 (by decide) fX11_47 (fun _ q => q.1.oo) rfl ?_
          refine r_iload_n (pc := 76) dX11_worst_76 rfl ?_
          rw [hn]
          refine r_Vv (pc := 77) (μ' := mX9_weighPauses) dX11_worst_77 nX11_282 iX9_weighPauses vX9_weighPauses kX9_weighPauses rfl rfl (rr (by omega) rfl) rfl ⟨Nat.zero_le _, Nat.zero_le _⟩ (fun g' q => weighP_G q r1 r5 (by omega) (fun g2 x => x)) ?_
          refine r_aload_n (pc := 80) dX11_worst_80 rfl ?_
          refine r_getf (pc := 81) (k := 4) dX11_worst_81 hX11 eX11 (by decide) fX11_47 (fun _ q => q.1.oo) rfl ?_
          refine r_Vi (pc := 84) (μ' := mX9_worstStrip) dX11_worst_84 nX11_288 iX9_worstStrip vX9_worstStrip kX9_worstStrip rfl rfl (rr (by omega) rfl) rfl ⟨Nat.zero_le _, Nat.zero_le _⟩ (fun g' q => ct_Th_worstStrip q.1.2 r1 q) ?_
          refine r_istore (pc := 87) dX11_worst_87 (Nat.le_of_ble_eq_true rfl) rfl ?_
          dsimp only [lset]
          refine r_iload_n (pc := 89) dX11_worst_89 rfl ?_
          refine r_if_ne (pc := 90) 98 dX11_worst_90 (by decide) (fun c90 => ?_) (fun c90 => ?_)
          · skip
            rw [if_neg c90] at h7
            refine r_aload_n (pc := 98) dX11_worst_98 rfl ?_
            refine r_getf (pc := 99) (k := 4) dX11_worst_99 hX11 eX11 (by decide) fX11_47 (fun _ q => q.1.oo) rfl ?_
            refine r_iload (pc := 102) dX11_worst_102 rfl ?_
            refine r_Vi (pc := 104) (μ' := mX9_seenCalledAhead) dX11_worst_104 nX11_285 iX9_seenCalledAhead vX9_seenCalledAhead kX9_seenCalledAhead rfl rfl (rr (by omega) rfl) rfl ⟨Nat.zero_le _, Nat.zero_le _⟩ (fun g' q => ct_Th_seenCalledAhead q.1.2 r1 q) ?_
            refine r_ireturn (pc := 107) (ty := .int) dX11_worst_107 rfl rfl ⟨Nat.zero_le _, Nat.zero_le _⟩ (fun gE hg => ?_)
            exact h7 _ hg.1.1 hg.2
          · skip
            rw [if_pos c90] at h7
            refine r_iload (pc := 93) dX11_worst_93 rfl ?_
            refine r_goto (pc := 95) 107 dX11_worst_95 (by decide) ?_
            refine r_ireturn (pc := 107) (ty := .int) dX11_worst_107 rfl rfl ⟨Nat.zero_le _, Nat.zero_le _⟩ (fun gE hg => ?_)
            exact h7 _ hg.1.1 hg.2
        · skip
          have h1 : kSt K = 1 := by have := fa_eq.mp c51; rw [hTs, t1] at this; omega
          refine r_aload_n (pc := 54) dX11_worst_54 rfl ?_
          refine r_iconst (pc := 55) (v := 2) dX11_worst_55 (by decide) ?_
          refine r_Vi (pc := 56) (μ' := mX11_error) dX11_worst_56 nX11_88 iX11_error vX11_error kX11_error rfl rfl (rr (by omega) rfl) rfl ⟨Nat.zero_le _, Nat.zero_le _⟩ (fun g' q => ct_G_error (P' := fun g2 => Q (some (.int (-1000000000 - 2))) g2) q.1 (fun g2 x y => e2 (by rw [k1, k2, k3]; rfl) h1 g2 x (q.2.tr y))) ?_
          refine r_ireturn (pc := 59) (ty := .int) dX11_worst_59 rfl rfl ⟨Nat.zero_le _, Nat.zero_le _⟩ (fun gE hg => ?_)
          exact hg
      · skip
        have k3 := b2i_0.mp c31
        refine r_aload_n (pc := 34) dX11_worst_34 rfl ?_
        refine r_iconst (pc := 35) (v := 1) dX11_worst_35 (by decide) ?_
        refine r_Vi (pc := 36) (μ' := mX11_error) dX11_worst_36 nX11_88 iX11_error vX11_error kX11_error rfl rfl (rr (by omega) rfl) rfl ⟨Nat.zero_le _, Nat.zero_le _⟩ (fun g' q => ct_G_error (P' := fun g2 => Q (some (.int (-1000000000 - 1))) g2) q.1 (fun g2 a b => e1 (by first | (rw [k1]; rfl) | (rw [k1, k2]; rfl) | (rw [k1, k2, k3]; rfl)) g2 a (q.2.tr b))) ?_
        refine r_ireturn (pc := 39) (ty := .int) dX11_worst_39 rfl rfl ⟨Nat.zero_le _, Nat.zero_le _⟩ (fun gE hg => ?_)
        exact hg
set_option maxHeartbeats 8000000 in
theorem ct_G_order {a b : Int32} (q : GA o K hs lD lL tp wa z k bt sh hd er im g) (ok : KOk K) (tb : TB K 9999 9999) (hok : HOk hs) (e1 : (hdB hs a && wiB b (-1) (nI K.2.1 - 1)) = false → ∀ g', GA o K hs lD lL tp wa z k bt sh hd (errL er 1) im g' → Off o 95 g g' → Q (some (.int (-1000000000 - 1))) g') (hP : ∀ i, a = nI i → i < hs.length → wiB b (-1) (nI K.2.1 - 1) = true → ∀ g' bs, GA o K hs lD lL tp wa z k bt sh hd er im g' → Off o 95 g g' → Q (some (.int (if b = -1 then nI (exN (kSt (thR K hs i)) (SB0 (thR K hs i) lD lL) (kSt (thR K hs i)) [] 0 (1000000, bs)).1 else atL (exN (kSt (thR K hs i)) (SB0 (thR K hs i) lD lL) (kSt (thR K hs i)) [] 0 (1000000, bs)).2 b))) g') : CV 14 0 0 mX11_order o [.int a, .int b] g Q := by
  refine ⟨q.V, ?_⟩
  refine ct_of (by decide) (fun _ _ => Nat.le_of_ble_eq_true rfl) ?_
  dsimp only [pad, ent]
  have hst : 1 ≤ kSt K ∧ kSt K ≤ 6 := ok.2.1
  refine aw_P (P' := fun g' => GA o K hs lD lL tp wa z k bt sh hd er im g' ∧ Off o 95 g g') (fun g' e => by subst e; exact ⟨q, Off.rf _ _ _⟩) ?_
  refine r_aload_n (pc := 0) dX11_order_0 rfl ?_
  refine r_getf (pc := 1) (k := 0) dX11_order_1 hX11 eX11 (by decide) fX11_10 (fun _ q => q.1.oo) rfl ?_
  refine r_getf (pc := 4) (k := 1) dX11_order_4 hX7 eX7 (by decide) fX11_140 (fun _ q => q.1.s) rfl ?_
  refine r_iload_n (pc := 7) dX11_order_7 rfl ?_
  refine r_Vi (pc := 8) (μ' := mX1_has) dX11_order_8 nX11_153 iX1_has vX1_has kX1_has rfl rfl (rr (by omega) rfl) rfl ⟨Nat.zero_le _, Nat.zero_le _⟩ (fun g' q => ct_Crew_has q.1.W q) ?_
  refine r_if_eq (pc := 11) 34 dX11_order_11 (by decide) (fun c11 => ?_) (fun c11 => ?_)
  · skip
    have k1 : hdB hs a = false := b2i_0.mp c11
    refine r_aload_n (pc := 34) dX11_order_34 rfl ?_
    refine r_iconst (pc := 35) (v := 1) dX11_order_35 (by decide) ?_
    refine r_Vi (pc := 36) (μ' := mX11_error) dX11_order_36 nX11_88 iX11_error vX11_error kX11_error rfl rfl (rr (by omega) rfl) rfl ⟨Nat.zero_le _, Nat.zero_le _⟩ (fun g' q => ct_G_error (P' := fun g2 => Q (some (.int (-1000000000 - 1))) g2) q.1 (fun g2 a b => e1 (by first | (rw [k1]; rfl) | (rw [k1, k2]; rfl)) g2 a (q.2.tr b))) ?_
    refine r_ireturn (pc := 39) (ty := .int) dX11_order_39 rfl rfl ⟨Nat.zero_le _, Nat.zero_le _⟩ (fun gE hg => ?_)
    exact hg
  · skip
    have k1 : hdB hs a = true := b2i_n0.mp c11
    refine r_iload_n (pc := 14) dX11_order_14 rfl ?_
    refine r_iconst (pc := 15) (v := (-1)) dX11_order_15 (by decide) ?_
    refine r_aload_n (pc := 16) dX11_order_16 rfl ?_
    refine r_getf (pc := 17) (k := 0) dX11_order_17 hX11 eX11 (by decide) fX11_10 (fun _ q => q.1.oo) rfl ?_
    refine r_getf (pc := 20) (k := 0) dX11_order_20 hX7 eX7 (by decide) fX11_92 (fun _ q => q.1.s) rfl ?_
    refine r_Vi (pc := 23) (μ' := mX0_strips) dX11_order_23 nX11_249 iX0_strips vX0_strips kX0_strips rfl rfl (rr (by omega) rfl) rfl ⟨Nat.zero_le _, Nat.zero_le _⟩ (fun g' q => ct_Ceil_strips (q.1.Ci : CeilI _ _ _ _ _ _ _ _ _ _ _ _) q) ?_
    refine r_iconst (pc := 26) (v := 1) dX11_order_26 (by decide) ?_
    refine r_isub (pc := 27) dX11_order_27 ?_
    refine r_Sp (pc := 28) (μ' := mX11_within) dX11_order_28 nX11_84 sX11_within kX11_within rfl rfl (rr (by omega) rfl) rfl ⟨Nat.zero_le _, Nat.zero_le _⟩ (fun h => ct_G_within h) ?_
    refine r_if_ne (pc := 31) 40 dX11_order_31 (by decide) (fun c31 => ?_) (fun c31 => ?_)
    · skip
      have k2 := b2i_n0.mp c31
      obtain ⟨i, hi, hi2⟩ := hd_t k1 hok
      obtain ⟨r1, r2, r3, r4, r5⟩ := thR_ok ok tb hok hi2
      have h7 := hP i hi hi2 k2
      refine r_aload_n (pc := 40) dX11_order_40 rfl ?_
      refine r_getf (pc := 41) (k := 4) dX11_order_41 hX11 eX11 (by decide) fX11_47 (fun _ q => q.1.oo) rfl ?_
      refine r_aload_n (pc := 44) dX11_order_44 rfl ?_
      refine r_getf (pc := 45) (k := 0) dX11_order_45 hX11 eX11 (by decide) fX11_10 (fun _ q => q.1.oo) rfl ?_
      refine r_iload_n (pc := 48) dX11_order_48 rfl ?_
      rw [hi]
      refine r_Vv (pc := 49) (μ' := mX9_rollAll) dX11_order_49 nX11_256 iX9_rollAll vX9_rollAll kX9_rollAll rfl rfl (rr (by omega) rfl) rfl ⟨Nat.zero_le _, Nat.zero_le _⟩ (fun g' q => rollAll_G q ok hok hi2 (fun g2 x => x)) ?_
      refine aw_ex fun be => aw_ex fun sp => aw_ex fun pl => aw_ex fun bs => aw_ex fun sb => aw_ex fun sw => aw_ex fun sx => ?_
      refine r_aload_n (pc := 52) dX11_order_52 rfl ?_
      refine r_getf (pc := 53) (k := 4) dX11_order_53 hX11 eX11 (by decide) fX11_47 (fun _ q => q.1.oo) rfl ?_
      refine r_Vv (pc := 56) (μ' := mX9_weighPlaces) dX11_order_56 nX11_263 iX9_weighPlaces vX9_weighPlaces kX9_weighPlaces rfl rfl (rr (by omega) rfl) rfl ⟨Nat.zero_le _, Nat.zero_le _⟩ (fun g' q => weighO_G q r1 r5 (fun g2 x => x)) ?_
      refine aw_ex fun sb2 => aw_pr fun hw => ?_
      refine r_aload_n (pc := 59) dX11_order_59 rfl ?_
      refine r_getf (pc := 60) (k := 4) dX11_order_60 hX11 eX11 (by decide) fX11_47 (fun _ q => q.1.oo) rfl ?_
      refine r_ldcw (pc := 63) (v := 1000000) dX11_order_63 qX11_266 ?_
      rw [show (1000000 : Int32) = nI 1000000 from rfl]
      refine r_Vv (pc := 66) (μ' := mX9_findBelow) dX11_order_66 nX11_267 iX9_findBelow vX9_findBelow kX9_findBelow rfl rfl (rr (by omega) rfl) rfl ⟨Nat.zero_le _, Nat.zero_le _⟩ (fun g' q => ct_Th_findBelow (P' := fun g2 => ∃ sp pl, GT o K hs lD lL tp wa z k bt sh hd er im (nI (exN (kSt (thR K hs i)) (SB0 (thR K hs i) lD lL) (kSt (thR K hs i)) [] 0 (1000000, bs)).1) (thR K hs i) sp pl (exN (kSt (thR K hs i)) (SB0 (thR K hs i) lD lL) (kSt (thR K hs i)) [] 0 (1000000, bs)).2 sb2 sw sx g2 ∧ Off o 95 g g2) q.1.2 r1 (hw.ws r1) (fun s p q => SB_le r1 lD lL s p q 0) (by omega) (fun g2 sp2 pl2 x y => ⟨sp2, pl2, ⟨q.1.1.setTh x.any y, x⟩, q.2.tr (y.wide (by omega) (by omega))⟩)) ?_
      refine aw_ex fun sp3 => aw_ex fun pl3 => ?_
      refine r_iload_n (pc := 69) dX11_order_69 rfl ?_
      refine r_iconst (pc := 70) (v := (-1)) dX11_order_70 (by decide) ?_
      refine r_icmp_ne (pc := 71) 84 dX11_order_71 (by decide) (fun c71 => ?_) (fun c71 => ?_)
      · skip
        have h8 := fun g' => h7 g' bs
        simp only [if_neg c71] at h8
        refine r_aload_n (pc := 84) dX11_order_84 rfl ?_
        refine r_getf (pc := 85) (k := 4) dX11_order_85 hX11 eX11 (by decide) fX11_47 (fun _ q => q.1.oo) rfl ?_
        refine r_iload_n (pc := 88) dX11_order_88 rfl ?_
        refine r_Vi (pc := 89) (μ' := mX9_bestStripAt) dX11_order_89 nX11_273 iX9_bestStripAt vX9_bestStripAt kX9_bestStripAt rfl rfl (rr (by omega) rfl) rfl ⟨Nat.zero_le _, Nat.zero_le _⟩ (fun g' q => ct_Th_bestStripAt q.1.2 q) ?_
        refine r_ireturn (pc := 92) (ty := .int) dX11_order_92 rfl rfl ⟨Nat.zero_le _, Nat.zero_le _⟩ (fun gE hg => ?_)
        exact h8 _ hg.1.1 hg.2
      · skip
        have h8 := fun g' => h7 g' bs
        simp only [if_pos c71] at h8
        refine r_aload_n (pc := 74) dX11_order_74 rfl ?_
        refine r_getf (pc := 75) (k := 4) dX11_order_75 hX11 eX11 (by decide) fX11_47 (fun _ q => q.1.oo) rfl ?_
        refine r_Vi (pc := 78) (μ' := mX9_best) dX11_order_78 nX11_270 iX9_best vX9_best kX9_best rfl rfl (rr (by omega) rfl) rfl ⟨Nat.zero_le _, Nat.zero_le _⟩ (fun g' q => ct_Th_best q.1.2 q) ?_
        refine r_goto (pc := 81) 92 dX11_order_81 (by decide) ?_
        refine r_ireturn (pc := 92) (ty := .int) dX11_order_92 rfl rfl ⟨Nat.zero_le _, Nat.zero_le _⟩ (fun gE hg => ?_)
        exact h8 _ hg.1.1 hg.2
    · skip
      have k2 := b2i_0.mp c31
      refine r_aload_n (pc := 34) dX11_order_34 rfl ?_
      refine r_iconst (pc := 35) (v := 1) dX11_order_35 (by decide) ?_
      refine r_Vi (pc := 36) (μ' := mX11_error) dX11_order_36 nX11_88 iX11_error vX11_error kX11_error rfl rfl (rr (by omega) rfl) rfl ⟨Nat.zero_le _, Nat.zero_le _⟩ (fun g' q => ct_G_error (P' := fun g2 => Q (some (.int (-1000000000 - 1))) g2) q.1 (fun g2 a b => e1 (by first | (rw [k1]; rfl) | (rw [k1, k2]; rfl)) g2 a (q.2.tr b))) ?_
      refine r_ireturn (pc := 39) (ty := .int) dX11_order_39 rfl rfl ⟨Nat.zero_le _, Nat.zero_le _⟩ (fun gE hg => ?_)
      exact hg
end Meth6
