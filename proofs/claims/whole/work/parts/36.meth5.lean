/-! THE WHOLE (OneGoCeiling): what would be -/
theorem TB.noCan {a b : Nat} {K : CK} (t : TB K a b) : TB (noCan K) a b := by
  obtain ⟨ro, st, mi, he, le, wh, si, ca, w, v⟩ := K
  exact t
theorem TB.rolls {kd m a b : Nat} {K : CK} (t : TB K a b) (ok : KOk K) (hkd : kd < 7) (hm : m < 10) (hab : a + 252 ≤ b) : ∀ n, n ≤ 6 → TB (rollsN kd m K n) (a + 36 * n) b
  | 0 => fun _ => t
  | n + 1 => fun hn => (TB.paint (TB.rolls t ok hkd hm hab n (by omega)) (rollsN_ok ok n).1 hkd hm (by omega)).mono (by omega) (Nat.le_refl _)
/-- all STRIPS are ROLLED in their order by a hand, a new count of cans -/
def thR (K : CK) (hs : List (Nat × Nat)) (i : Nat) : CK := rollsN (hKd hs i) (hMn hs i) (noCan K) (kSt K)
theorem thR_ok {K : CK} {hs : List (Nat × Nat)} {i : Nat} (ok : KOk K) (t : TB K 9999 9999) (hok : HOk hs) (hi : i < hs.length) : KOk (thR K hs i) ∧ kRo (thR K hs i) = kRo K ∧ kSt (thR K hs i) = kSt K ∧ kHe (thR K hs i) = kHe K ∧ WB (thR K hs i) := by
  obtain ⟨a, b, c, d⟩ := rollsN_ok (kd := hKd hs i) (m := hMn hs i) (noCan_ok ok) (kSt K)
  have h := hok.at hi
  have t2 : TB (noCan K) 9999 20000 := (TB.noCan t).mono (Nat.le_refl _) (by omega)
  exact ⟨a, b, c, d, (TB.rolls t2 (noCan_ok ok) h.1 h.2 (by omega) (kSt K) ok.2.1.2).wb (by omega)⟩
section Meth5
variable {o : Nat} {K K9 R : CK} {hs hs9 : List (Nat × Nat)} {lD lL tp wa hd er sp pl bs sb sw sx : List Int32} {z im be : Int32} {k : NS} {bt : Nat → Int32} {sh : Nat → List Int32} {h g : AH} {Q : Option Value → AH → Prop}
theorem GA_tho (q : GA o K hs lD lL tp wa z k bt sh hd er im h) (t : TE (o + 59) (o + 54) (o + 12) lD lL be R sp pl bs sb sw sx g) (e : OffS (thS (o + 54) (o + 12) (o + 59)) h g) : GA o K hs lD lL tp wa z k bt sh hd er im g ∧ Off o 95 h g := by
  have s : ∀ lo w, (lo + w ≤ o + 12 ∨ o + 22 ≤ lo) → (lo + w ≤ o + 54 ∨ o + 59 ≤ lo) → (lo + w ≤ o + 59 ∨ o + 77 ≤ lo) → Same lo w h g := fun lo w h1 h2 h7 => e.same (fun j h3 h4 h5 => by unfold thS eyS at h5; omega)
  have a2 : EyeW (o + 54) (o + 12) lD lL g := t.2.1
  obtain ⟨⟨kD, kL, ⟨q1, q2, q3, q4, q5, q6, q7⟩, m1, m2⟩, t1, t2⟩ := t.2.1
  exact ⟨⟨q.Obj.same (s _ _ (by omega) (by omega) (by omega)), q.Arr.same (s _ _ (by omega) (by omega) (by omega)), StK.upd q.St (s _ _ (by omega) (by omega) (by omega)) (s _ _ (by omega) (by omega) (by omega)) q5 q6, StAt.same q.Ke (s _ _ (by omega) (by omega) (by omega)), q.Rd.same (s _ _ (by omega) (by omega) (by omega)), a2, t.1.any, q.Vo.same (s _ _ (by omega) (by omega) (by omega)), q.Sh.same (s _ _ (by omega) (by omega) (by omega)), q.Er.same (s _ _ (by omega) (by omega) (by omega))⟩, e.1, fun j hj => e.2 j (fun x => by unfold thS eyS at x; omega)⟩
/-- the whole, with a thought of R -/
def GT (o : Nat) (K : CK) (hs : List (Nat × Nat)) (lD lL tp wa : List Int32) (z : Int32) (k : NS) (bt : Nat → Int32) (sh : Nat → List Int32) (hd er : List Int32) (im be : Int32) (R : CK) (sp pl bs sb sw sx : List Int32) (g : AH) : Prop := GA o K hs lD lL tp wa z k bt sh hd er im g ∧ ThK (o + 59) (o + 54) be R sp pl bs sb sw sx g
theorem GT.te (q : GT o K hs lD lL tp wa z k bt sh hd er im be R sp pl bs sb sw sx g) : TE (o + 59) (o + 54) (o + 12) lD lL be R sp pl bs sb sw sx g := q.1.TE q.2
theorem GT.oo (q : GT o K hs lD lL tp wa z k bt sh hd er im be R sp pl bs sb sw sx g) : o < g.1 ∧ g.2 o = .inr (.inr (10, [.ref (o + 1), .ref (o + 26), .ref (o + 51), .ref (o + 54), .ref (o + 59), .ref (o + 77), .ref (o + 80), .ref (o + 93), .int im])) := q.1.oo
theorem GT.s (q : GT o K hs lD lL tp wa z k bt sh hd er im be R sp pl bs sb sw sx g) : o + 1 < g.1 ∧ g.2 (o + 1) = .inr (.inr (6, [.ref (o + 1 + 1), .ref (o + 1 + 6), .ref (o + 1 + 11), .ref (o + 1 + 16), .ref (o + 1 + 21), .ref (o + 1 + 23), .int z])) := q.1.s
theorem rollAll_G {i : Nat} {P' : AH → Prop} (q : GA o K hs lD lL tp wa z k bt sh hd er im h ∧ Off o 95 g h) (ok : KOk K) (hok : HOk hs) (hi : i < hs.length) (hP : ∀ g2, (∃ be sp pl bs sb sw sx, GT o K hs lD lL tp wa z k bt sh hd er im be (thR K hs i) sp pl bs sb sw sx g2 ∧ Off o 95 g g2) → P' g2) : CV 5 0 0 mX9_rollAll (o + 59) [.ref (o + 1), .int (nI i)] h (fun v g' => v = none ∧ P' g') :=
  ct_Th_rollAll q.1.Th q.1.St (by omega) ok hok hi (fun g2 be sp pl bs sb sw sx a b => hP g2 ⟨be, sp, pl, bs, sb, sw, sx, ⟨q.1.setTh a.any b, a⟩, q.2.tr (b.wide (by omega) (by omega))⟩)
theorem weighP_G {n : Nat} {P' : AH → Prop} (q : GT o K hs lD lL tp wa z k bt sh hd er im be R sp pl bs sb sw sx h ∧ Off o 95 g h) (ok : KOk R) (wb : WB R) (hn : n ≤ 4000) (hP : ∀ g2, GT o K hs lD lL tp wa z k bt sh hd er im be R sp pl bs sb (swL R lD lL 0 (kSt R - 1)) (swL R lD lL n (kSt R - 1)) g2 ∧ Off o 95 g g2 → P' g2) : CV 8 0 0 mX9_weighPauses (o + 59) [.int (nI n)] h (fun v g' => v = none ∧ P' g') :=
  ct_Th_weighPauses q.1.te ok wb hn (fun g2 a b => hP g2 ⟨⟨(GA_tho q.1.1 a b).1, a.1⟩, q.2.tr (GA_tho q.1.1 a b).2⟩)
theorem weighO_G {P' : AH → Prop} (q : GT o K hs lD lL tp wa z k bt sh hd er im be R sp pl bs sb sw sx h ∧ Off o 95 g h) (ok : KOk R) (wb : WB R) (hP : ∀ g2, (∃ sb2, WPok R lD lL 216 sb2 ∧ (GT o K hs lD lL tp wa z k bt sh hd er im be R sp pl bs sb2 sw sx g2 ∧ Off o 95 g g2)) → P' g2) : CV 8 0 0 mX9_weighPlaces (o + 59) [] h (fun v g' => v = none ∧ P' g') :=
  ct_Th_weighPlaces q.1.te ok wb (fun g2 sb2 c a b => hP g2 ⟨sb2, c, ⟨(GA_tho q.1.1 a b).1, a.1⟩, q.2.tr (GA_tho q.1.1 a b).2⟩)
set_option maxHeartbeats 8000000 in
theorem ct_G_cans {a : Int32} (q : GA o K hs lD lL tp wa z k bt sh hd er im g) (ok : KOk K) (tb : TB K 9999 9999) (hok : HOk hs) (e1 : hdB hs a = false → ∀ g', GA o K hs lD lL tp wa z k bt sh hd (errL er 1) im g' → Off o 95 g g' → Q (some (.int (-1000000000 - 1))) g') (hP : ∀ i, a = nI i → i < hs.length → ∀ g', GA o K hs lD lL tp wa z k bt sh hd er im g' → Off o 95 g g' → Q (some (.int (nI (thR K hs i).2.2.2.2.2.2.2.1))) g') : CV 10 0 0 mX11_cans o [.int a] g Q := by
  refine ⟨q.V, ?_⟩
  refine ct_of (by decide) (fun _ _ => Nat.le_of_ble_eq_true rfl) ?_
  dsimp only [pad, ent]
  refine aw_P (P' := fun g' => GA o K hs lD lL tp wa z k bt sh hd er im g' ∧ Off o 95 g g') (fun g' e => by subst e; exact ⟨q, Off.rf _ _ _⟩) ?_
  refine r_aload_n (pc := 0) dX11_cans_0 rfl ?_
  refine r_getf (pc := 1) (k := 0) dX11_cans_1 hX11 eX11 (by decide) fX11_10 (fun _ q => q.1.oo) rfl ?_
  refine r_getf (pc := 4) (k := 1) dX11_cans_4 hX7 eX7 (by decide) fX11_140 (fun _ q => q.1.s) rfl ?_
  refine r_iload_n (pc := 7) dX11_cans_7 rfl ?_
  refine r_Vi (pc := 8) (μ' := mX1_has) dX11_cans_8 nX11_153 iX1_has vX1_has kX1_has rfl rfl (rr (by omega) rfl) rfl ⟨Nat.zero_le _, Nat.zero_le _⟩ (fun g' q => ct_Crew_has q.1.W q) ?_
  refine r_if_ne (pc := 11) 20 dX11_cans_11 (by decide) (fun c11 => ?_) (fun c11 => ?_)
  · skip
    have k1 : hdB hs a = true := b2i_n0.mp c11
    obtain ⟨i, hi, hi2⟩ := hd_t k1 hok
    refine r_aload_n (pc := 20) dX11_cans_20 rfl ?_
    refine r_getf (pc := 21) (k := 4) dX11_cans_21 hX11 eX11 (by decide) fX11_47 (fun _ q => q.1.oo) rfl ?_
    refine r_aload_n (pc := 24) dX11_cans_24 rfl ?_
    refine r_getf (pc := 25) (k := 0) dX11_cans_25 hX11 eX11 (by decide) fX11_10 (fun _ q => q.1.oo) rfl ?_
    refine r_iload_n (pc := 28) dX11_cans_28 rfl ?_
    rw [hi]
    refine r_Vv (pc := 29) (μ' := mX9_rollAll) dX11_cans_29 nX11_256 iX9_rollAll vX9_rollAll kX9_rollAll rfl rfl (rr (by omega) rfl) rfl ⟨Nat.zero_le _, Nat.zero_le _⟩ (fun g' q => rollAll_G q ok hok hi2 (fun g2 x => x)) ?_
    refine aw_ex fun be => aw_ex fun sp => aw_ex fun pl => aw_ex fun bs => aw_ex fun sb => aw_ex fun sw => aw_ex fun sx => ?_
    refine r_aload_n (pc := 32) dX11_cans_32 rfl ?_
    refine r_getf (pc := 33) (k := 4) dX11_cans_33 hX11 eX11 (by decide) fX11_47 (fun _ q => q.1.oo) rfl ?_
    refine r_Vi (pc := 36) (μ' := mX9_cansBegun) dX11_cans_36 nX11_294 iX9_cansBegun vX9_cansBegun kX9_cansBegun rfl rfl (rr (by omega) rfl) rfl ⟨Nat.zero_le _, Nat.zero_le _⟩ (fun g' q => ct_Th_cansBegun q.1.2 q) ?_
    refine r_ireturn (pc := 39) (ty := .int) dX11_cans_39 rfl rfl ⟨Nat.zero_le _, Nat.zero_le _⟩ (fun gE hg => ?_)
    exact hP i hi hi2 _ hg.1.1 hg.2
  · skip
    have k1 : hdB hs a = false := b2i_0.mp c11
    refine r_aload_n (pc := 14) dX11_cans_14 rfl ?_
    refine r_iconst (pc := 15) (v := 1) dX11_cans_15 (by decide) ?_
    refine r_Vi (pc := 16) (μ' := mX11_error) dX11_cans_16 nX11_88 iX11_error vX11_error kX11_error rfl rfl (rr (by omega) rfl) rfl ⟨Nat.zero_le _, Nat.zero_le _⟩ (fun g' q => ct_G_error (P' := fun g2 => Q (some (.int (-1000000000 - 1))) g2) q.1 (fun g2 a b => e1 (by first | exact k1 | (rw [k1]; rfl)) g2 a (q.2.tr b))) ?_
    refine r_ireturn (pc := 19) (ty := .int) dX11_cans_19 rfl rfl ⟨Nat.zero_le _, Nat.zero_le _⟩ (fun gE hg => ?_)
    exact hg
set_option maxHeartbeats 8000000 in
theorem ct_G_howLong {a b : Int32} (q : GA o K hs lD lL tp wa z k bt sh hd er im g) (ok : KOk K) (tb : TB K 9999 9999) (hok : HOk hs) (e1 : (hdB hs a && laB K b) = false → ∀ g', GA o K hs lD lL tp wa z k bt sh hd (errL er 1) im g' → Off o 95 g g' → Q (some (.int (-1000000000 - 1))) g') (hP : ∀ i s, a = nI i → i < hs.length → b = nI s → 1 ≤ s → s < kSt K → ∀ g', GA o K hs lD lL tp wa z k bt sh hd er im g' → Off o 95 g g' → Q (some (.int (nI (lpN (SB (thR K hs i) lD lL (s - 1) (s - 1) s) 500)))) g') : CV 10 0 0 mX11_howLong o [.int a, .int b] g Q := by
  refine ⟨q.V, ?_⟩
  refine ct_of (by decide) (fun _ _ => Nat.le_of_ble_eq_true rfl) ?_
  dsimp only [pad, ent]
  have hst : 1 ≤ kSt K ∧ kSt K ≤ 6 := ok.2.1
  refine aw_P (P' := fun g' => GA o K hs lD lL tp wa z k bt sh hd er im g' ∧ Off o 95 g g') (fun g' e => by subst e; exact ⟨q, Off.rf _ _ _⟩) ?_
  refine r_aload_n (pc := 0) dX11_howLong_0 rfl ?_
  refine r_getf (pc := 1) (k := 0) dX11_howLong_1 hX11 eX11 (by decide) fX11_10 (fun _ q => q.1.oo) rfl ?_
  refine r_getf (pc := 4) (k := 1) dX11_howLong_4 hX7 eX7 (by decide) fX11_140 (fun _ q => q.1.s) rfl ?_
  refine r_iload_n (pc := 7) dX11_howLong_7 rfl ?_
  refine r_Vi (pc := 8) (μ' := mX1_has) dX11_howLong_8 nX11_153 iX1_has vX1_has kX1_has rfl rfl (rr (by omega) rfl) rfl ⟨Nat.zero_le _, Nat.zero_le _⟩ (fun g' q => ct_Crew_has q.1.W q) ?_
  refine r_if_eq (pc := 11) 22 dX11_howLong_11 (by decide) (fun c11 => ?_) (fun c11 => ?_)
  · skip
    have k1 : hdB hs a = false := b2i_0.mp c11
    refine r_aload_n (pc := 22) dX11_howLong_22 rfl ?_
    refine r_iconst (pc := 23) (v := 1) dX11_howLong_23 (by decide) ?_
    refine r_Vi (pc := 24) (μ' := mX11_error) dX11_howLong_24 nX11_88 iX11_error vX11_error kX11_error rfl rfl (rr (by omega) rfl) rfl ⟨Nat.zero_le _, Nat.zero_le _⟩ (fun g' q => ct_G_error (P' := fun g2 => Q (some (.int (-1000000000 - 1))) g2) q.1 (fun g2 a b => e1 (by first | (rw [k1]; rfl) | (rw [k1, k2]; rfl)) g2 a (q.2.tr b))) ?_
    refine r_ireturn (pc := 27) (ty := .int) dX11_howLong_27 rfl rfl ⟨Nat.zero_le _, Nat.zero_le _⟩ (fun gE hg => ?_)
    exact hg
  · skip
    have k1 : hdB hs a = true := b2i_n0.mp c11
    refine r_aload_n (pc := 14) dX11_howLong_14 rfl ?_
    refine r_iload_n (pc := 15) dX11_howLong_15 rfl ?_
    refine r_Vi (pc := 16) (μ' := mX11_isLaterStrip) dX11_howLong_16 nX11_279 iX11_isLaterStrip vX11_isLaterStrip kX11_isLaterStrip rfl rfl (rr (by omega) rfl) rfl ⟨Nat.zero_le _, Nat.zero_le _⟩ (fun g' q => ct_G_isLaterStrip q.1 ok q) ?_
    refine r_if_ne (pc := 19) 28 dX11_howLong_19 (by decide) (fun c19 => ?_) (fun c19 => ?_)
    · skip
      have k2 := b2i_n0.mp c19
      have k3 := of_decide_eq_true k2
      obtain ⟨i, hi, hi2⟩ := hd_t k1 hok
      obtain ⟨s, hs1, hs2, hs3⟩ : ∃ s, b = nI s ∧ 1 ≤ s ∧ s < kSt K := ⟨b.toInt.toNat, (nI_tn (by omega) (by omega)).symm, by omega, by omega⟩
      obtain ⟨r1, r2, r3, r4, r5⟩ := thR_ok ok tb hok hi2
      refine r_aload_n (pc := 28) dX11_howLong_28 rfl ?_
      refine r_getf (pc := 29) (k := 4) dX11_howLong_29 hX11 eX11 (by decide) fX11_47 (fun _ q => q.1.oo) rfl ?_
      refine r_aload_n (pc := 32) dX11_howLong_32 rfl ?_
      refine r_getf (pc := 33) (k := 0) dX11_howLong_33 hX11 eX11 (by decide) fX11_10 (fun _ q => q.1.oo) rfl ?_
      refine r_iload_n (pc := 36) dX11_howLong_36 rfl ?_
      rw [hi]
      refine r_Vv (pc := 37) (μ' := mX9_rollAll) dX11_howLong_37 nX11_256 iX9_rollAll vX9_rollAll kX9_rollAll rfl rfl (rr (by omega) rfl) rfl ⟨Nat.zero_le _, Nat.zero_le _⟩ (fun g' q => rollAll_G q ok hok hi2 (fun g2 x => x)) ?_
      refine aw_ex fun be => aw_ex fun sp => aw_ex fun pl => aw_ex fun bs => aw_ex fun sb => aw_ex fun sw => aw_ex fun sx => ?_
      refine r_aload_n (pc := 40) dX11_howLong_40 rfl ?_
      refine r_getf (pc := 41) (k := 4) dX11_howLong_41 hX11 eX11 (by decide) fX11_47 (fun _ q => q.1.oo) rfl ?_
      refine r_iload_n (pc := 44) dX11_howLong_44 rfl ?_
      refine r_sipush (pc := 45) (v := 500) dX11_howLong_45 (by decide) ?_
      rw [hs1, show (500 : Int32) = nI 500 from rfl]
      refine r_Vi (pc := 48) (μ' := mX9_longestPause) dX11_howLong_48 nX11_291 iX9_longestPause vX9_longestPause kX9_longestPause rfl rfl (rr (by omega) rfl) rfl ⟨Nat.zero_le _, Nat.zero_le _⟩ (fun g' q => ct_Th_longestPause (P' := fun g2 => GA o K hs lD lL tp wa z k bt sh hd er im g2 ∧ Off o 95 g g2) q.1.te r1 r5 (by omega) (by omega) (fun g2 x y => ⟨(GA_tho q.1.1 x (eS y)).1, q.2.tr (GA_tho q.1.1 x (eS y)).2⟩)) ?_
      refine r_ireturn (pc := 51) (ty := .int) dX11_howLong_51 rfl rfl ⟨Nat.zero_le _, Nat.zero_le _⟩ (fun gE hg => ?_)
      exact hP i s hi hi2 hs1 hs2 hs3 _ hg.1 hg.2
    · skip
      have k2 := b2i_0.mp c19
      refine r_aload_n (pc := 22) dX11_howLong_22 rfl ?_
      refine r_iconst (pc := 23) (v := 1) dX11_howLong_23 (by decide) ?_
      refine r_Vi (pc := 24) (μ' := mX11_error) dX11_howLong_24 nX11_88 iX11_error vX11_error kX11_error rfl rfl (rr (by omega) rfl) rfl ⟨Nat.zero_le _, Nat.zero_le _⟩ (fun g' q => ct_G_error (P' := fun g2 => Q (some (.int (-1000000000 - 1))) g2) q.1 (fun g2 a b => e1 (by first | (rw [k1]; rfl) | (rw [k1, k2]; rfl)) g2 a (q.2.tr b))) ?_
      refine r_ireturn (pc := 27) (ty := .int) dX11_howLong_27 rfl rfl ⟨Nat.zero_le _, Nat.zero_le _⟩ (fun gE hg => ?_)
      exact hg
end Meth5
