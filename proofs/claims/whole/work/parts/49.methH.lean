/-! THE WHOLE (OneGoCeiling): feed, text, restore -/
theorem Off.sy {lo w : Nat} {h g : AH} (a : Off lo w h g) : Off lo w g h := ⟨a.1.symm, fun j hj => (a.2 j hj).symm⟩
/-- the whole, but what the eye remembers may be of other texts -/
def GN (o : Nat) (K : CK) (hs : List (Nat × Nat)) (lD lL tp wa : List Int32) (z : Int32) (k : NS) (bt : Nat → Int32) (sh : Nat → List Int32) (hd er : List Int32) (im : Int32) (g : AH) : Prop :=
  GObj o im g ∧ GArr o g ∧ StK (o + 1) K hs lD lL tp wa z g ∧ StK (o + 26) k.1 k.2.1 k.2.2.1 k.2.2.2.1 k.2.2.2.2.1 k.2.2.2.2.2.1 k.2.2.2.2.2.2 g ∧ RdAny (o + 51) g ∧ (∃ kD kL, EyeK (o + 54) (o + 12) lD lL kD kL g ∧ kD.length = 360 ∧ kL.length = 3000) ∧ ThAny (o + 59) (o + 54) g ∧ VoX (o + 77) hd g ∧ ShX o bt sh g ∧ RowAt (o + 93) 6 er g
section MethH
variable {o : Nat} {K K9 R : CK} {hs hs9 : List (Nat × Nat)} {lD lL tp wa hd er lD9 lL9 tp9 wa9 : List Int32} {z im z9 : Int32} {k : NS} {bt : Nat → Int32} {sh : Nat → List Int32} {h g : AH} {Q : Option Value → AH → Prop} {P' : AH → Prop}
theorem GA.gn (q : GA o K hs lD lL tp wa z k bt sh hd er im g) : GN o K hs lD lL tp wa z k bt sh hd er im g := by
  obtain ⟨q1, q2, q3, q4, q5, ⟨⟨kD, kL, q6, q7, q8⟩, -⟩, q9⟩ := q
  exact ⟨q1, q2, q3, q4, q5, ⟨kD, kL, q6, q7.1, q8.1⟩, q9⟩
theorem GN.setS (q : GN o K hs lD lL tp wa z k bt sh hd er im h) (a : StK (o + 1) K9 hs9 lD9 lL9 tp9 wa9 z9 g) (e : Off (o + 1) 25 h g) : GN o K9 hs9 lD9 lL9 tp9 wa9 z9 k bt sh hd er im g := by
  obtain ⟨q1, q2, q3, q4, q5, ⟨kD, kL, ⟨e1, e2, e3, e4, e5, e6, e7⟩, n1, n2⟩, q9, q10, q11, q12⟩ := q
  exact ⟨q1.same (e.same (by omega)), q2.same (e.same (by omega)), a, StAt.same q4 (e.same (by omega)), q5.same (e.same (by omega)), ⟨kD, kL, ⟨by rw [e.1]; exact e1, by rw [e.2 _ (by omega)]; exact e2, e3.same (e.same (by omega)), e4.same (e.same (by omega)), a.2.2.2.1, a.2.2.2.2.1, e7⟩, n1, n2⟩, q9.same (e.same (by omega)), q10.same (e.same (by omega)), q11.same (e.same (by omega)), q12.same (e.same (by omega))⟩
theorem forget_G (q : GN o K hs lD lL tp wa z k bt sh hd er im h ∧ Off o 95 g h) (hD : TxOk lD) (hL : TxOk lL) (hP : ∀ g2, GA o K hs lD lL tp wa z k bt sh hd er im g2 ∧ Off o 95 g g2 → P' g2) : CV 3 0 0 mX2_forget (o + 54) [] h (fun v g' => v = none ∧ P' g') := by
  obtain ⟨⟨q1, q2, q3, q4, q5, ⟨kD, kL, q6, n1, n2⟩, q9, q10, q11, q12⟩, q0⟩ := q
  exact ct_Eye_forget q6 n1 n2 hD hL (fun g2 x e => hP g2 ⟨⟨q1.same (e.same (by omega)), q2.same (e.same (by omega)), StAt.same q3 (e.same (by omega)), StAt.same q4 (e.same (by omega)), q5.same (e.same (by omega)), x, q9.same (e.same (by omega)), q10.same (e.same (by omega)), q11.same (e.same (by omega)), q12.same (e.same (by omega))⟩, q0.tr (e.wide (by omega) (by omega))⟩)
/-- a word's bytes, the lowest first -/
def byI (w : Int64) (i : Nat) : Int32 := (((w.toUInt64 >>> ((8 * nI i).toInt64.toUInt64 &&& Int64.toUInt64 63)).toInt64) &&& 255).toInt32
def byL (w : Int64) (n : Nat) : List Int32 := (List.range n).map (byI w)
theorem byL_s {w : Int64} {n : Nat} : byL w (n + 1) = byL w n ++ [byI w n] := by unfold byL; rw [List.range_succ, List.map_append]; rfl
theorem byL_len {w : Int64} {n : Nat} : (byL w n).length = n := by unfold byL; rw [List.length_map, List.length_range]
set_option maxHeartbeats 8000000 in
theorem ct_G_feed {w : Int64} {b : Int32} (q : GA o K hs lD lL tp wa z k bt sh hd er im g) (e1 : wiB b 1 8 = false → ∀ g', GA o K hs lD lL tp wa z k bt sh hd (errL er 1) im g' → Off o 95 g g' → Q (some (.int (-1000000000 - 1))) g') (e4 : ∀ n, b = nI n → 1 ≤ n → n ≤ 8 → ¬ tp.length + n ≤ 50 → ∀ g', GA o K hs lD lL tp wa z k bt sh hd (errL er 4) im g' → Off o 95 g g' → Q (some (.int (-1000000000 - 4))) g') (hP : ∀ n, b = nI n → 1 ≤ n → n ≤ 8 → tp.length + n ≤ 50 → ∀ g', GA o K hs lD lL (tp ++ byL w n) wa z k bt sh hd er im g' → Off o 95 g g' → Q (some (.int (nI (tp.length + n)))) g') : CV 6 0 0 mX11_feed o [.long w, .int b] g Q := by
  refine ⟨q.V, ?_⟩
  refine ct_of (by decide) (fun _ _ => Nat.le_of_ble_eq_true rfl) ?_
  dsimp only [pad, ent]
  have htl := q.Tp.2.1
  have hTt := nI_T (n := tp.length) (by omega)
  have L : ∀ n, b = nI n → 1 ≤ n → n ≤ 8 → tp.length + n ≤ 50 → ∀ j, j ≤ n → AW (fun _ => True) (rmd 6 0 0) mX11_feed 0 0 42 [some (.ref o), some (.long w), none, some (.int (nI n)), some (.int (nI j))] [] (fun g' => GA o K hs lD lL (tp ++ byL w j) wa z k bt sh hd er im g' ∧ Off o 95 g g') Q := by
    intro n hn h1 h2 h3
    have hTn := nI_T (n := n) (by omega)
    refine up_loop ?_ ?_
    · have hl : (tp ++ byL w n).length = tp.length + n := by rw [List.length_append, byL_len]
      refine r_iload (pc := 42) dX11_feed_42 rfl ?_
      refine r_iload_n (pc := 44) dX11_feed_44 rfl ?_
      refine r_icmp_ge (pc := 45) 77 dX11_feed_45 (by decide) (fun c45 => ?_) (fun c45 => ?_)
      · skip
        refine r_aload_n (pc := 77) dX11_feed_77 rfl ?_
        refine r_getf (pc := 78) (k := 0) dX11_feed_78 hX11 eX11 (by decide) fX11_10 (fun _ q => q.1.oo) rfl ?_
        refine r_getf (pc := 81) (k := 4) dX11_feed_81 hX7 eX7 (by decide) fX11_180 (fun _ q => q.1.s) rfl ?_
        refine r_Vi (pc := 84) (μ' := mX5_length) dX11_feed_84 nX11_183 iX5_length vX5_length kX5_length rfl rfl (rr (by decide) rfl) rfl ⟨Nat.zero_le _, Nat.zero_le _⟩ (fun g' q => ct_Row_length q.1.Tp q) ?_
        rw [hl]
        refine r_ireturn (pc := 87) (ty := .int) dX11_feed_87 rfl rfl ⟨Nat.zero_le _, Nat.zero_le _⟩ (fun gE hg => ?_)
        exact hP n hn h1 h2 h3 _ hg.1 hg.2
      · skip
        exact absurd (fa_le.mpr (Int.le_refl _)) c45
    · intro j hj ih
      have hTj := nI_T (n := j) (by omega)
      have hl : (tp ++ byL w j).length < 50 := by rw [List.length_append, byL_len]; omega
      refine r_iload (pc := 42) dX11_feed_42 rfl ?_
      refine r_iload_n (pc := 44) dX11_feed_44 rfl ?_
      refine r_icmp_ge (pc := 45) 77 dX11_feed_45 (by decide) (fun c45 => ?_) (fun c45 => ?_)
      · skip
        exact absurd c45 (fun x => by have := fa_le.mp x; omega)
      · skip
        refine r_aload_n (pc := 48) dX11_feed_48 rfl ?_
        refine r_getf (pc := 49) (k := 0) dX11_feed_49 hX11 eX11 (by decide) fX11_10 (fun _ q => q.1.oo) rfl ?_
        refine r_getf (pc := 52) (k := 4) dX11_feed_52 hX7 eX7 (by decide) fX11_180 (fun _ q => q.1.s) rfl ?_
        refine r_lload_n (pc := 55) dX11_feed_55 rfl ?_
        refine r_bipush (pc := 56) (v := 8) dX11_feed_56 (by decide) ?_
        refine r_iload (pc := 58) dX11_feed_58 rfl ?_
        refine r_imul (pc := 60) dX11_feed_60 ?_
        refine r_lushr (pc := 61) dX11_feed_61 ?_
        refine r_ldc2 (pc := 62) (v := 255) dX11_feed_62 qX11_186 ?_
        refine r_land (pc := 65) dX11_feed_65 ?_
        refine r_l2i (pc := 66) dX11_feed_66 ?_
        refine r_Vi (pc := 67) (μ' := mX5_add) dX11_feed_67 nX11_188 iX5_add vX5_add kX5_add rfl rfl (rr (by decide) rfl) rfl ⟨Nat.zero_le _, Nat.zero_le _⟩ (fun g' q => ct_Row_add (P' := fun g2 => GA o K hs lD lL (tp ++ byL w (j + 1)) wa z k bt sh hd er im g2 ∧ Off o 95 g g2) q.1.Tp (fun g2 x y => ⟨q.1.setTp (by unfold addL at x; rw [if_pos hl, List.append_assoc] at x; rw [byL_s]; exact x) y, q.2.tr (y.wide (by omega) (by omega))⟩)) ?_
        refine r_pop (pc := 70) dX11_feed_70 rfl ?_
        refine r_iinc1 (pc := 71) dX11_feed_71 rfl (Nat.le_of_ble_eq_true rfl) rfl ?_
        dsimp only [lset]
        refine r_goto (pc := 74) 42 dX11_feed_74 (by decide) ?_
        rw [nI_s]
        exact ih
  refine aw_P (P' := fun g' => GA o K hs lD lL tp wa z k bt sh hd er im g' ∧ Off o 95 g g') (fun g' e => by subst e; exact ⟨q, Off.rf _ _ _⟩) ?_
  refine r_iload_n (pc := 0) dX11_feed_0 rfl ?_
  refine r_iconst (pc := 1) (v := 1) dX11_feed_1 (by decide) ?_
  refine r_bipush (pc := 2) (v := 8) dX11_feed_2 (by decide) ?_
  refine r_Sp (pc := 4) (μ' := mX11_within) dX11_feed_4 nX11_84 sX11_within kX11_within rfl rfl (rr (by decide) rfl) rfl ⟨Nat.zero_le _, Nat.zero_le _⟩ (fun h => ct_G_within h) ?_
  refine r_if_ne (pc := 7) 16 dX11_feed_7 (by decide) (fun c7 => ?_) (fun c7 => ?_)
  · skip
    have k1 := b2i_n0.mp c7
    have w1 := wi_t k1
    rw [t1, show (8 : Int32).toInt = 8 from rfl] at w1
    obtain ⟨n, hn, h1, h2⟩ : ∃ n, b = nI n ∧ 1 ≤ n ∧ n ≤ 8 := ⟨b.toInt.toNat, (nI_tn (by omega) (by omega)).symm, by omega, by omega⟩
    have hTn := nI_T (n := tp.length + n) (by omega)
    refine r_aload_n (pc := 16) dX11_feed_16 rfl ?_
    refine r_getf (pc := 17) (k := 0) dX11_feed_17 hX11 eX11 (by decide) fX11_10 (fun _ q => q.1.oo) rfl ?_
    refine r_getf (pc := 20) (k := 4) dX11_feed_20 hX7 eX7 (by decide) fX11_180 (fun _ q => q.1.s) rfl ?_
    refine r_Vi (pc := 23) (μ' := mX5_length) dX11_feed_23 nX11_183 iX5_length vX5_length kX5_length rfl rfl (rr (by decide) rfl) rfl ⟨Nat.zero_le _, Nat.zero_le _⟩ (fun g' q => ct_Row_length q.1.Tp q) ?_
    rw [hn]
    refine r_iload_n (pc := 26) dX11_feed_26 rfl ?_
    refine r_iadd (pc := 27) dX11_feed_27 ?_
    rw [nI_add]
    refine r_bipush (pc := 28) (v := 50) dX11_feed_28 (by decide) ?_
    refine r_icmp_le (pc := 30) 39 dX11_feed_30 (by decide) (fun c30 => ?_) (fun c30 => ?_)
    · skip
      have k3 : tp.length + n ≤ 50 := by have := fa_le.mp c30; rw [hTn, show (50 : Int32).toInt = 50 from rfl] at this; omega
      refine r_iconst (pc := 39) (v := 0) dX11_feed_39 (by decide) ?_
      refine r_istore (pc := 40) dX11_feed_40 (Nat.le_of_ble_eq_true rfl) rfl ?_
      dsimp only [lset]
      exact aw_P (fun g' q => ⟨by rw [show tp ++ byL w 0 = tp from List.append_nil tp]; exact q.1, q.2⟩) (L n hn h1 h2 k3 0 (Nat.zero_le _))
    · skip
      have k3 : ¬ tp.length + n ≤ 50 := fun x => c30 (fa_le.mpr (by rw [hTn, show (50 : Int32).toInt = 50 from rfl]; omega))
      refine r_aload_n (pc := 33) dX11_feed_33 rfl ?_
      refine r_iconst (pc := 34) (v := 4) dX11_feed_34 (by decide) ?_
      refine r_Vi (pc := 35) (μ' := mX11_error) dX11_feed_35 nX11_88 iX11_error vX11_error kX11_error rfl rfl (rr (by decide) rfl) rfl ⟨Nat.zero_le _, Nat.zero_le _⟩ (fun g' q => ct_G_error (P' := fun g2 => Q (some (.int (-1000000000 - 4))) g2) q.1 (fun g2 x y => e4 n hn h1 h2 k3 g2 x (q.2.tr y))) ?_
      refine r_ireturn (pc := 38) (ty := .int) dX11_feed_38 rfl rfl ⟨Nat.zero_le _, Nat.zero_le _⟩ (fun gE hg => ?_)
      exact hg
  · skip
    have k1 := b2i_0.mp c7
    refine r_aload_n (pc := 10) dX11_feed_10 rfl ?_
    refine r_iconst (pc := 11) (v := 1) dX11_feed_11 (by decide) ?_
    refine r_Vi (pc := 12) (μ' := mX11_error) dX11_feed_12 nX11_88 iX11_error vX11_error kX11_error rfl rfl (rr (by decide) rfl) rfl ⟨Nat.zero_le _, Nat.zero_le _⟩ (fun g' q => ct_G_error (P' := fun g2 => Q (some (.int (-1000000000 - 1))) g2) q.1 (fun g2 x y => e1 k1 g2 x (q.2.tr y))) ?_
    refine r_ireturn (pc := 15) (ty := .int) dX11_feed_15 rfl rfl ⟨Nat.zero_le _, Nat.zero_le _⟩ (fun gE hg => ?_)
    exact hg
theorem m10_sub {a : Nat} (h : a ≤ 4000) : (-10 : Int32) - nI a = iI (-10 - (a : Int)) := by
  apply Int32.toInt_inj.mp
  rw [iI_T (by omega) (by omega), Int32.toInt_sub, nI_T h, show (-10 : Int32).toInt = -10 from rfl]
  exact Int.bmod_eq_of_le (by omega) (by omega)
theorem m1_lt : ((-1 : Int32) < 0) := by decide
set_option maxHeartbeats 8000000 in
theorem ct_G_text {a : Int32} (q : GA o K hs lD lL tp wa z k bt sh hd er im g) (hx : ∀ use, (use = 0 ∨ use = 1) → rdOk use tp = true → TxOk (rdAll use tp).2.2) (hf : ∀ use, (use = 0 ∨ use = 1) → (rdAll use tp).1 ≤ 4000) (e1 : wiB a 0 1 = false → ∀ g', GA o K hs lD lL tp wa z k bt sh hd (errL er 1) im g' → Off o 95 g g' → Q (some (.int (-1000000000 - 1))) g')
    (h0 : a = 0 → rdOk 0 tp = true → ∀ g', GA o K hs (rdAll 0 tp).2.2 lL [] wa z k bt sh hd er im g' → Off o 95 g g' → Q (some (.int 1)) g')
    (h1 : a = 1 → rdOk 1 tp = true → ∀ g', GA o K hs lD (rdAll 1 tp).2.2 [] wa z k bt sh hd er im g' → Off o 95 g g' → Q (some (.int 1)) g')
    (hF : ∀ u, a = u → wiB a 0 1 = true → rdOk u tp = false → ∀ g', GA o K hs lD lL [] wa z k bt sh hd er im g' → Off o 95 g g' → Q (some (.int (iI (-10 - ((rdAll u tp).1 : Int))))) g') : CV 50 0 0 mX11_text o [.int a] g Q := by
  refine ⟨q.V, ?_⟩
  refine ct_of (by decide) (fun _ _ => Nat.le_of_ble_eq_true rfl) ?_
  dsimp only [pad, ent]
  by_cases a0 : a = 0
  · subst a0
    by_cases r : rdOk 0 tp = true
    · refine aw_P (P' := fun g' => GA o K hs lD lL tp wa z k bt sh hd er im g' ∧ Off o 95 g g') (fun g' e => by subst e; exact ⟨q, Off.rf _ _ _⟩) ?_
      refine r_aload_n (pc := 0) dX11_text_0 rfl ?_
      refine r_iload_n (pc := 1) dX11_text_1 rfl ?_
      refine r_Vr (pc := 2) (μ' := mX11_textOf) dX11_text_2 nX11_191 iX11_textOf vX11_textOf kX11_textOf rfl rfl (rr (by omega) rfl) rfl ⟨Nat.zero_le _, Nat.zero_le _⟩ (fun g' q => text_0 q.1 q) ?_
      refine r_astore_n (pc := 5) dX11_text_5 rfl (Nat.le_of_ble_eq_true rfl) rfl ?_
      dsimp only [lset]
      refine r_aload_n (pc := 6) dX11_text_6 rfl ?_
      refine r_ifnonnull (pc := 7) 16 dX11_text_7 (by decide) ?_
      refine r_aload_n (pc := 16) dX11_text_16 rfl ?_
      refine r_getf (pc := 17) (k := 2) dX11_text_17 hX11 eX11 (by decide) fX11_22 (fun _ q => q.1.oo) rfl ?_
      refine r_aload_n (pc := 20) dX11_text_20 rfl ?_
      refine r_getf (pc := 21) (k := 0) dX11_text_21 hX11 eX11 (by decide) fX11_10 (fun _ q => q.1.oo) rfl ?_
      refine r_getf (pc := 24) (k := 4) dX11_text_24 hX7 eX7 (by decide) fX11_180 (fun _ q => q.1.s) rfl ?_
      refine r_aload_n (pc := 27) dX11_text_27 rfl ?_
      refine r_Vi (pc := 28) (μ' := mX4_read) dX11_text_28 nX11_195 iX4_read vX4_read kX4_read rfl rfl (rr (by omega) rfl) rfl ⟨Nat.zero_le _, Nat.zero_le _⟩ (fun g' q => ct_Rd_read (P' := fun g2 => GN o K hs (rdAll 0 tp).2.2 lL tp wa z k bt sh hd er im g2 ∧ Off o 95 g g2) q.1.Rd q.1.Tp q.1.St.2.2.2.1 (by omega) (by omega) (fun ga g2 x1 x2 x3 x4 => by
            have q1 := q.1.setRd (x1.off x3.sy (by omega)) x2
            rw [if_pos r] at x4
            exact ⟨q1.gn.setS (StAt.setD q1.St x4 x3) (x3.wide (by omega) (by omega)), (q.2.tr (x2.wide (by omega) (by omega))).tr (x3.wide (by omega) (by omega))⟩)) ?_
      rw [if_pos r]
      refine r_istore_n (pc := 31) dX11_text_31 rfl (Nat.le_of_ble_eq_true rfl) rfl ?_
      dsimp only [lset]
      refine r_aload_n (pc := 32) dX11_text_32 rfl ?_
      refine r_getf (pc := 33) (k := 0) dX11_text_33 hX11 eX11 (by decide) fX11_10 (fun _ q => q.1.1) rfl ?_
      refine r_getf (pc := 36) (k := 4) dX11_text_36 hX7 eX7 (by decide) fX11_180 (fun _ q => StAt.o q.1.2.2.1) rfl ?_
      refine r_Vv (pc := 39) (μ' := mX5_clear) dX11_text_39 nX11_199 iX5_clear vX5_clear kX5_clear rfl rfl (rr (by omega) rfl) rfl ⟨Nat.zero_le _, Nat.zero_le _⟩ (fun g' q => ct_Row_clear (P' := fun g2 => GN o K hs (rdAll 0 tp).2.2 lL [] wa z k bt sh hd er im g2 ∧ Off o 95 g g2) (q.1.2.2.1.2.2.2.2.2.1) (fun g2 x y => ⟨q.1.setS (StAt.setT q.1.2.2.1 x y) (y.wide (by omega) (by omega)), q.2.tr (y.wide (by omega) (by omega))⟩)) ?_
      refine r_iload_n (pc := 42) dX11_text_42 rfl ?_
      refine r_if_lt (pc := 43) 51 dX11_text_43 (by decide) (fun c43 => ?_) (fun c43 => ?_)
      · skip
        refine r_aload_n (pc := 51) dX11_text_51 rfl ?_
        refine r_getf (pc := 52) (k := 3) dX11_text_52 hX11 eX11 (by decide) fX11_38 (fun _ q => q.1.1) rfl ?_
        refine r_Vv (pc := 55) (μ' := mX2_forget) dX11_text_55 nX11_202 iX2_forget vX2_forget kX2_forget rfl rfl (rr (by omega) rfl) rfl ⟨Nat.zero_le _, Nat.zero_le _⟩ (fun g' q2 => forget_G q2 (hx 0 (Or.inl rfl) r) q.Ey.2.2 (fun g2 x => x)) ?_
        refine r_iconst (pc := 58) (v := 1) dX11_text_58 (by decide) ?_
        refine r_ireturn (pc := 59) (ty := .int) dX11_text_59 rfl rfl ⟨Nat.zero_le _, Nat.zero_le _⟩ (fun gE hg => ?_)
        exact h0 rfl r _ hg.1 hg.2
      · skip
        exact absurd m1_lt c43
    · have r2 : rdOk 0 tp = false := by cases e : rdOk 0 tp <;> simp_all
      have hf0 := hf 0 (Or.inl rfl)
      have hneg : ¬ nI (rdAll 0 tp).1 < 0 := nI_pos (by omega)
      refine aw_P (P' := fun g' => GA o K hs lD lL tp wa z k bt sh hd er im g' ∧ Off o 95 g g') (fun g' e => by subst e; exact ⟨q, Off.rf _ _ _⟩) ?_
      refine r_aload_n (pc := 0) dX11_text_0 rfl ?_
      refine r_iload_n (pc := 1) dX11_text_1 rfl ?_
      refine r_Vr (pc := 2) (μ' := mX11_textOf) dX11_text_2 nX11_191 iX11_textOf vX11_textOf kX11_textOf rfl rfl (rr (by omega) rfl) rfl ⟨Nat.zero_le _, Nat.zero_le _⟩ (fun g' q => text_0 q.1 q) ?_
      refine r_astore_n (pc := 5) dX11_text_5 rfl (Nat.le_of_ble_eq_true rfl) rfl ?_
      dsimp only [lset]
      refine r_aload_n (pc := 6) dX11_text_6 rfl ?_
      refine r_ifnonnull (pc := 7) 16 dX11_text_7 (by decide) ?_
      refine r_aload_n (pc := 16) dX11_text_16 rfl ?_
      refine r_getf (pc := 17) (k := 2) dX11_text_17 hX11 eX11 (by decide) fX11_22 (fun _ q => q.1.oo) rfl ?_
      refine r_aload_n (pc := 20) dX11_text_20 rfl ?_
      refine r_getf (pc := 21) (k := 0) dX11_text_21 hX11 eX11 (by decide) fX11_10 (fun _ q => q.1.oo) rfl ?_
      refine r_getf (pc := 24) (k := 4) dX11_text_24 hX7 eX7 (by decide) fX11_180 (fun _ q => q.1.s) rfl ?_
      refine r_aload_n (pc := 27) dX11_text_27 rfl ?_
      refine r_Vi (pc := 28) (μ' := mX4_read) dX11_text_28 nX11_195 iX4_read vX4_read kX4_read rfl rfl (rr (by omega) rfl) rfl ⟨Nat.zero_le _, Nat.zero_le _⟩ (fun g' q => ct_Rd_read (P' := fun g2 => GA o K hs lD lL tp wa z k bt sh hd er im g2 ∧ Off o 95 g g2) q.1.Rd q.1.Tp q.1.St.2.2.2.1 (by omega) (by omega) (fun ga g2 x1 x2 x3 x4 => by
            have q1 := q.1.setRd (x1.off x3.sy (by omega)) x2
            rw [if_neg r] at x4
            exact ⟨q1.setS (StAt.setD q1.St x4 x3) (x3.wide (by omega) (by omega)), (q.2.tr (x2.wide (by omega) (by omega))).tr (x3.wide (by omega) (by omega))⟩)) ?_
      rw [if_neg r]
      refine r_istore_n (pc := 31) dX11_text_31 rfl (Nat.le_of_ble_eq_true rfl) rfl ?_
      dsimp only [lset]
      refine r_aload_n (pc := 32) dX11_text_32 rfl ?_
      refine r_getf (pc := 33) (k := 0) dX11_text_33 hX11 eX11 (by decide) fX11_10 (fun _ q => q.1.oo) rfl ?_
      refine r_getf (pc := 36) (k := 4) dX11_text_36 hX7 eX7 (by decide) fX11_180 (fun _ q => q.1.s) rfl ?_
      refine r_Vv (pc := 39) (μ' := mX5_clear) dX11_text_39 nX11_199 iX5_clear vX5_clear kX5_clear rfl rfl (rr (by omega) rfl) rfl ⟨Nat.zero_le _, Nat.zero_le _⟩ (fun g' q => ct_Row_clear (P' := fun g2 => GA o K hs lD lL [] wa z k bt sh hd er im g2 ∧ Off o 95 g g2) q.1.Tp (fun g2 x y => ⟨q.1.setTp x y, q.2.tr (y.wide (by omega) (by omega))⟩)) ?_
      refine r_iload_n (pc := 42) dX11_text_42 rfl ?_
      refine r_if_lt (pc := 43) 51 dX11_text_43 (by decide) (fun c43 => ?_) (fun c43 => ?_)
      · skip
        exact absurd c43 hneg
      · skip
        refine r_bipush (pc := 46) (v := (-10)) dX11_text_46 (by decide) ?_
        refine r_iload_n (pc := 48) dX11_text_48 rfl ?_
        refine r_isub (pc := 49) dX11_text_49 ?_
        rw [m10_sub hf0]
        refine r_ireturn (pc := 50) (ty := .int) dX11_text_50 rfl rfl ⟨Nat.zero_le _, Nat.zero_le _⟩ (fun gE hg => ?_)
        exact hF 0 rfl (by decide) r2 _ hg.1 hg.2
  · by_cases a1 : a = 1
    · subst a1
      by_cases r : rdOk 1 tp = true
      · refine aw_P (P' := fun g' => GA o K hs lD lL tp wa z k bt sh hd er im g' ∧ Off o 95 g g') (fun g' e => by subst e; exact ⟨q, Off.rf _ _ _⟩) ?_
        refine r_aload_n (pc := 0) dX11_text_0 rfl ?_
        refine r_iload_n (pc := 1) dX11_text_1 rfl ?_
        refine r_Vr (pc := 2) (μ' := mX11_textOf) dX11_text_2 nX11_191 iX11_textOf vX11_textOf kX11_textOf rfl rfl (rr (by omega) rfl) rfl ⟨Nat.zero_le _, Nat.zero_le _⟩ (fun g' q => text_1 q.1 q) ?_
        refine r_astore_n (pc := 5) dX11_text_5 rfl (Nat.le_of_ble_eq_true rfl) rfl ?_
        dsimp only [lset]
        refine r_aload_n (pc := 6) dX11_text_6 rfl ?_
        refine r_ifnonnull (pc := 7) 16 dX11_text_7 (by decide) ?_
        refine r_aload_n (pc := 16) dX11_text_16 rfl ?_
        refine r_getf (pc := 17) (k := 2) dX11_text_17 hX11 eX11 (by decide) fX11_22 (fun _ q => q.1.oo) rfl ?_
        refine r_aload_n (pc := 20) dX11_text_20 rfl ?_
        refine r_getf (pc := 21) (k := 0) dX11_text_21 hX11 eX11 (by decide) fX11_10 (fun _ q => q.1.oo) rfl ?_
        refine r_getf (pc := 24) (k := 4) dX11_text_24 hX7 eX7 (by decide) fX11_180 (fun _ q => q.1.s) rfl ?_
        refine r_aload_n (pc := 27) dX11_text_27 rfl ?_
        refine r_Vi (pc := 28) (μ' := mX4_read) dX11_text_28 nX11_195 iX4_read vX4_read kX4_read rfl rfl (rr (by omega) rfl) rfl ⟨Nat.zero_le _, Nat.zero_le _⟩ (fun g' q => ct_Rd_read (P' := fun g2 => GN o K hs lD (rdAll 1 tp).2.2 tp wa z k bt sh hd er im g2 ∧ Off o 95 g g2) q.1.Rd q.1.Tp q.1.St.2.2.2.2.1 (by omega) (by omega) (fun ga g2 x1 x2 x3 x4 => by
              have q1 := q.1.setRd (x1.off x3.sy (by omega)) x2
              rw [if_pos r] at x4
              exact ⟨q1.gn.setS (StAt.setL q1.St x4 x3) (x3.wide (by omega) (by omega)), (q.2.tr (x2.wide (by omega) (by omega))).tr (x3.wide (by omega) (by omega))⟩)) ?_
        rw [if_pos r]
        refine r_istore_n (pc := 31) dX11_text_31 rfl (Nat.le_of_ble_eq_true rfl) rfl ?_
        dsimp only [lset]
        refine r_aload_n (pc := 32) dX11_text_32 rfl ?_
        refine r_getf (pc := 33) (k := 0) dX11_text_33 hX11 eX11 (by decide) fX11_10 (fun _ q => q.1.1) rfl ?_
        refine r_getf (pc := 36) (k := 4) dX11_text_36 hX7 eX7 (by decide) fX11_180 (fun _ q => StAt.o q.1.2.2.1) rfl ?_
        refine r_Vv (pc := 39) (μ' := mX5_clear) dX11_text_39 nX11_199 iX5_clear vX5_clear kX5_clear rfl rfl (rr (by omega) rfl) rfl ⟨Nat.zero_le _, Nat.zero_le _⟩ (fun g' q => ct_Row_clear (P' := fun g2 => GN o K hs lD (rdAll 1 tp).2.2 [] wa z k bt sh hd er im g2 ∧ Off o 95 g g2) (q.1.2.2.1.2.2.2.2.2.1) (fun g2 x y => ⟨q.1.setS (StAt.setT q.1.2.2.1 x y) (y.wide (by omega) (by omega)), q.2.tr (y.wide (by omega) (by omega))⟩)) ?_
        refine r_iload_n (pc := 42) dX11_text_42 rfl ?_
        refine r_if_lt (pc := 43) 51 dX11_text_43 (by decide) (fun c43 => ?_) (fun c43 => ?_)
        · skip
          refine r_aload_n (pc := 51) dX11_text_51 rfl ?_
          refine r_getf (pc := 52) (k := 3) dX11_text_52 hX11 eX11 (by decide) fX11_38 (fun _ q => q.1.1) rfl ?_
          refine r_Vv (pc := 55) (μ' := mX2_forget) dX11_text_55 nX11_202 iX2_forget vX2_forget kX2_forget rfl rfl (rr (by omega) rfl) rfl ⟨Nat.zero_le _, Nat.zero_le _⟩ (fun g' q2 => forget_G q2 q.Ey.2.1 (hx 1 (Or.inr rfl) r) (fun g2 x => x)) ?_
          refine r_iconst (pc := 58) (v := 1) dX11_text_58 (by decide) ?_
          refine r_ireturn (pc := 59) (ty := .int) dX11_text_59 rfl rfl ⟨Nat.zero_le _, Nat.zero_le _⟩ (fun gE hg => ?_)
          exact h1 rfl r _ hg.1 hg.2
        · skip
          exact absurd m1_lt c43
      · have r2 : rdOk 1 tp = false := by cases e : rdOk 1 tp <;> simp_all
        have hf0 := hf 1 (Or.inr rfl)
        have hneg : ¬ nI (rdAll 1 tp).1 < 0 := nI_pos (by omega)
        refine aw_P (P' := fun g' => GA o K hs lD lL tp wa z k bt sh hd er im g' ∧ Off o 95 g g') (fun g' e => by subst e; exact ⟨q, Off.rf _ _ _⟩) ?_
        refine r_aload_n (pc := 0) dX11_text_0 rfl ?_
        refine r_iload_n (pc := 1) dX11_text_1 rfl ?_
        refine r_Vr (pc := 2) (μ' := mX11_textOf) dX11_text_2 nX11_191 iX11_textOf vX11_textOf kX11_textOf rfl rfl (rr (by omega) rfl) rfl ⟨Nat.zero_le _, Nat.zero_le _⟩ (fun g' q => text_1 q.1 q) ?_
        refine r_astore_n (pc := 5) dX11_text_5 rfl (Nat.le_of_ble_eq_true rfl) rfl ?_
        dsimp only [lset]
        refine r_aload_n (pc := 6) dX11_text_6 rfl ?_
        refine r_ifnonnull (pc := 7) 16 dX11_text_7 (by decide) ?_
        refine r_aload_n (pc := 16) dX11_text_16 rfl ?_
        refine r_getf (pc := 17) (k := 2) dX11_text_17 hX11 eX11 (by decide) fX11_22 (fun _ q => q.1.oo) rfl ?_
        refine r_aload_n (pc := 20) dX11_text_20 rfl ?_
        refine r_getf (pc := 21) (k := 0) dX11_text_21 hX11 eX11 (by decide) fX11_10 (fun _ q => q.1.oo) rfl ?_
        refine r_getf (pc := 24) (k := 4) dX11_text_24 hX7 eX7 (by decide) fX11_180 (fun _ q => q.1.s) rfl ?_
        refine r_aload_n (pc := 27) dX11_text_27 rfl ?_
        refine r_Vi (pc := 28) (μ' := mX4_read) dX11_text_28 nX11_195 iX4_read vX4_read kX4_read rfl rfl (rr (by omega) rfl) rfl ⟨Nat.zero_le _, Nat.zero_le _⟩ (fun g' q => ct_Rd_read (P' := fun g2 => GA o K hs lD lL tp wa z k bt sh hd er im g2 ∧ Off o 95 g g2) q.1.Rd q.1.Tp q.1.St.2.2.2.2.1 (by omega) (by omega) (fun ga g2 x1 x2 x3 x4 => by
              have q1 := q.1.setRd (x1.off x3.sy (by omega)) x2
              rw [if_neg r] at x4
              exact ⟨q1.setS (StAt.setL q1.St x4 x3) (x3.wide (by omega) (by omega)), (q.2.tr (x2.wide (by omega) (by omega))).tr (x3.wide (by omega) (by omega))⟩)) ?_
        rw [if_neg r]
        refine r_istore_n (pc := 31) dX11_text_31 rfl (Nat.le_of_ble_eq_true rfl) rfl ?_
        dsimp only [lset]
        refine r_aload_n (pc := 32) dX11_text_32 rfl ?_
        refine r_getf (pc := 33) (k := 0) dX11_text_33 hX11 eX11 (by decide) fX11_10 (fun _ q => q.1.oo) rfl ?_
        refine r_getf (pc := 36) (k := 4) dX11_text_36 hX7 eX7 (by decide) fX11_180 (fun _ q => q.1.s) rfl ?_
        refine r_Vv (pc := 39) (μ' := mX5_clear) dX11_text_39 nX11_199 iX5_clear vX5_clear kX5_clear rfl rfl (rr (by omega) rfl) rfl ⟨Nat.zero_le _, Nat.zero_le _⟩ (fun g' q => ct_Row_clear (P' := fun g2 => GA o K hs lD lL [] wa z k bt sh hd er im g2 ∧ Off o 95 g g2) q.1.Tp (fun g2 x y => ⟨q.1.setTp x y, q.2.tr (y.wide (by omega) (by omega))⟩)) ?_
        refine r_iload_n (pc := 42) dX11_text_42 rfl ?_
        refine r_if_lt (pc := 43) 51 dX11_text_43 (by decide) (fun c43 => ?_) (fun c43 => ?_)
        · skip
          exact absurd c43 hneg
        · skip
          refine r_bipush (pc := 46) (v := (-10)) dX11_text_46 (by decide) ?_
          refine r_iload_n (pc := 48) dX11_text_48 rfl ?_
          refine r_isub (pc := 49) dX11_text_49 ?_
          rw [m10_sub hf0]
          refine r_ireturn (pc := 50) (ty := .int) dX11_text_50 rfl rfl ⟨Nat.zero_le _, Nat.zero_le _⟩ (fun gE hg => ?_)
          exact hF 1 rfl (by decide) r2 _ hg.1 hg.2
    · have k1 : wiB a 0 1 = false := by
        cases e : wiB a 0 1
        · rfl
        · rcases wi01.mp e with x | x
          · exact absurd x a0
          · exact absurd x a1
      refine aw_P (P' := fun g' => GA o K hs lD lL tp wa z k bt sh hd er im g' ∧ Off o 95 g g') (fun g' e => by subst e; exact ⟨q, Off.rf _ _ _⟩) ?_
      refine r_aload_n (pc := 0) dX11_text_0 rfl ?_
      refine r_iload_n (pc := 1) dX11_text_1 rfl ?_
      refine r_VrN (pc := 2) (μ' := mX11_textOf) dX11_text_2 nX11_191 iX11_textOf vX11_textOf kX11_textOf rfl rfl (rr (by decide) rfl) rfl ⟨Nat.zero_le _, Nat.zero_le _⟩ (fun g' q => text_off q.1 a0 a1 q) ?_
      refine r_astore_nN (pc := 5) dX11_text_5 rfl (Nat.le_of_ble_eq_true rfl) rfl ?_
      dsimp only [lset]
      refine r_aload_nN (pc := 6) dX11_text_6 rfl ?_
      refine r_ifnonnullN (pc := 7) dX11_text_7 ?_
      refine r_aload_n (pc := 10) dX11_text_10 rfl ?_
      refine r_iconst (pc := 11) (v := 1) dX11_text_11 (by decide) ?_
      refine r_Vi (pc := 12) (μ' := mX11_error) dX11_text_12 nX11_88 iX11_error vX11_error kX11_error rfl rfl (rr (by decide) rfl) rfl ⟨Nat.zero_le _, Nat.zero_le _⟩ (fun g' q => ct_G_error (P' := fun g2 => Q (some (.int (-1000000000 - 1))) g2) q.1 (fun g2 x y => e1 k1 g2 x (q.2.tr y))) ?_
      refine r_ireturn (pc := 15) (ty := .int) dX11_text_15 rfl rfl ⟨Nat.zero_le _, Nat.zero_le _⟩ (fun gE hg => ?_)
      exact hg
set_option maxHeartbeats 8000000 in
theorem ct_G_restore (q : GA o K hs lD lL tp wa z k bt sh hd er im g) (hD : TxOk k.2.2.1) (hL : TxOk k.2.2.2.1) (e2 : im = 0 → ∀ g', GA o K hs lD lL tp wa z k bt sh hd (errL er 2) im g' → Off o 95 g g' → Q (some (.int (-1000000000 - 2))) g') (hP : ¬ im = 0 → ∀ g', GA o (noCan k.1) k.2.1 k.2.2.1 k.2.2.2.1 k.2.2.2.2.1 k.2.2.2.2.2.1 k.2.2.2.2.2.2 k bt sh hd er im g' → Off o 95 g g' → Q (some (.int (nI (kMi k.1)))) g') : CV 6 0 0 mX11_restore o [] g Q := by
  refine ⟨q.V, ?_⟩
  refine ct_of (by decide) (fun _ _ => Nat.le_of_ble_eq_true rfl) ?_
  dsimp only [pad, ent]
  refine aw_P (P' := fun g' => GA o K hs lD lL tp wa z k bt sh hd er im g' ∧ Off o 95 g g') (fun g' e => by subst e; exact ⟨q, Off.rf _ _ _⟩) ?_
  refine r_aload_n (pc := 0) dX11_restore_0 rfl ?_
  refine r_getf (pc := 1) (k := 8) dX11_restore_1 hX11 eX11 (by decide) fX11_74 (fun _ q => q.1.oo) rfl ?_
  refine r_if_ne (pc := 4) 13 dX11_restore_4 (by decide) (fun c4 => ?_) (fun c4 => ?_)
  · skip
    refine r_aload_n (pc := 13) dX11_restore_13 rfl ?_
    refine r_getf (pc := 14) (k := 0) dX11_restore_14 hX11 eX11 (by decide) fX11_10 (fun _ q => q.1.oo) rfl ?_
    refine r_aload_n (pc := 17) dX11_restore_17 rfl ?_
    refine r_getf (pc := 18) (k := 1) dX11_restore_18 hX11 eX11 (by decide) fX11_16 (fun _ q => q.1.oo) rfl ?_
    refine r_Vv (pc := 21) (μ' := mX7_take) dX11_restore_21 nX11_354 iX7_take vX7_take kX7_take rfl rfl (rr (by decide) rfl) rfl ⟨Nat.zero_le _, Nat.zero_le _⟩ (fun g' q => ct_St_take (P' := fun g2 => GN o (noCan k.1) k.2.1 k.2.2.1 k.2.2.2.1 k.2.2.2.2.1 k.2.2.2.2.2.1 k.2.2.2.2.2.2 k bt sh hd er im g2 ∧ Off o 95 g g2) q.1.St q.1.Ke (by omega) (fun g2 x y => ⟨q.1.gn.setS (K9 := noCan k.1) x y, q.2.tr (y.wide (by omega) (by omega))⟩)) ?_
    refine r_aload_n (pc := 24) dX11_restore_24 rfl ?_
    refine r_getf (pc := 25) (k := 3) dX11_restore_25 hX11 eX11 (by decide) fX11_38 (fun _ q => q.1.1) rfl ?_
    refine r_Vv (pc := 28) (μ' := mX2_forget) dX11_restore_28 nX11_202 iX2_forget vX2_forget kX2_forget rfl rfl (rr (by decide) rfl) rfl ⟨Nat.zero_le _, Nat.zero_le _⟩ (fun g' q => forget_G q hD hL (fun g2 x => x)) ?_
    refine r_aload_n (pc := 31) dX11_restore_31 rfl ?_
    refine r_getf (pc := 32) (k := 0) dX11_restore_32 hX11 eX11 (by decide) fX11_10 (fun _ q => q.1.oo) rfl ?_
    refine r_getf (pc := 35) (k := 0) dX11_restore_35 hX7 eX7 (by decide) fX11_92 (fun _ q => q.1.s) rfl ?_
    refine r_Vi (pc := 38) (μ' := mX0_minute) dX11_restore_38 nX11_220 iX0_minute vX0_minute kX0_minute rfl rfl (rr (by decide) rfl) rfl ⟨Nat.zero_le _, Nat.zero_le _⟩ (fun g' q => ct_Ceil_minute (q.1.Ci : CeilI _ _ _ _ _ _ _ _ _ _ _ _) q) ?_
    refine r_ireturn (pc := 41) (ty := .int) dX11_restore_41 rfl rfl ⟨Nat.zero_le _, Nat.zero_le _⟩ (fun gE hg => ?_)
    exact hP c4 _ hg.1 hg.2
  · skip
    refine r_aload_n (pc := 7) dX11_restore_7 rfl ?_
    refine r_iconst (pc := 8) (v := 2) dX11_restore_8 (by decide) ?_
    refine r_Vi (pc := 9) (μ' := mX11_error) dX11_restore_9 nX11_88 iX11_error vX11_error kX11_error rfl rfl (rr (by decide) rfl) rfl ⟨Nat.zero_le _, Nat.zero_le _⟩ (fun g' q => ct_G_error (P' := fun g2 => Q (some (.int (-1000000000 - 2))) g2) q.1 (fun g2 x y => e2 c4 g2 x (q.2.tr y))) ?_
    refine r_ireturn (pc := 12) (ty := .int) dX11_restore_12 rfl rfl ⟨Nat.zero_le _, Nat.zero_le _⟩ (fun gE hg => ?_)
    exact hg
end MethH
