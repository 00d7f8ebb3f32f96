/-! ALL THAT AN IMAGE KEEPS (OneGoCeiling$State), and the draws -/
def StObj (s : Nat) (z : Int32) (g : AH) : Prop := s < g.1 ∧ g.2 s = .inr (.inr (6, [.ref (s + 1), .ref (s + 6), .ref (s + 11), .ref (s + 16), .ref (s + 21), .ref (s + 23), .int z]))
/-- a state at s: ceiling, hands' kinds and numbers, the texts' steps, tape, what waits, z -/
def StAt (s : Nat) (ro st mi he le wh si ca : Int32) (wn wt ks ms lD lL tp wa : List Int32) (z : Int32) (g : AH) : Prop :=
  StObj s z g ∧ CeilI (s + 1) ro st mi he le wh si ca wn wt g ∧ CrewAt (s + 6) ks ms g ∧ TextAt (s + 11) 0 lD g ∧ TextAt (s + 16) 1 lL g ∧ RowAt (s + 21) 50 tp g ∧ RowAt (s + 23) 20 wa g
section Sta
variable {s s2 : Nat} {ro st mi he le wh si ca ro2 st2 mi2 he2 le2 wh2 si2 ca2 : Int32} {wn wt ks ms lD lL tp wa wn2 wt2 ks2 ms2 lD2 lL2 tp2 wa2 : List Int32} {z z2 : Int32} {g h : AH} {P' : AH → Prop}
theorem StObj.same (q : StObj s z h) (e : Same s 1 h g) : StObj s z g := ⟨by rw [e.1]; exact q.1, by rw [e.2 s (by omega) (by omega)]; exact q.2⟩
theorem StAt.same (q : StAt s ro st mi he le wh si ca wn wt ks ms lD lL tp wa z h) (e : Same s 25 h g) : StAt s ro st mi he le wh si ca wn wt ks ms lD lL tp wa z g :=
  ⟨q.1.same (e.sub (by omega) (by omega)), q.2.1.same (e.sub (by omega) (by omega)), q.2.2.1.same (e.sub (by omega) (by omega)), q.2.2.2.1.same (e.sub (by omega) (by omega)), q.2.2.2.2.1.same (e.sub (by omega) (by omega)), q.2.2.2.2.2.1.same (e.sub (by omega) (by omega)), q.2.2.2.2.2.2.same (e.sub (by omega) (by omega))⟩
theorem StAt.V (q : StAt s ro st mi he le wh si ca wn wt ks ms lD lL tp wa z g) : ∃ (fs : List Value) (T : u_T) (N : Nat), s < g.1 ∧ g.2 s = .inr (.inr (6, fs)) ∧ vwCl[6]? = some (RX7, T, N) := ⟨_, _, _, q.1.1, q.1.2, rfl⟩
theorem StAt.setC (q : StAt s ro st mi he le wh si ca wn wt ks ms lD lL tp wa z h) (a : CeilI (s + 1) ro2 st2 mi2 he2 le2 wh2 si2 ca2 wn2 wt2 g) (o : Off (s + 1) 5 h g) : StAt s ro2 st2 mi2 he2 le2 wh2 si2 ca2 wn2 wt2 ks ms lD lL tp wa z g :=
  ⟨q.1.same (o.same (by omega)), a, q.2.2.1.same (o.same (by omega)), q.2.2.2.1.same (o.same (by omega)), q.2.2.2.2.1.same (o.same (by omega)), q.2.2.2.2.2.1.same (o.same (by omega)), q.2.2.2.2.2.2.same (o.same (by omega))⟩
theorem StAt.setW (q : StAt s ro st mi he le wh si ca wn wt ks ms lD lL tp wa z h) (a : CrewAt (s + 6) ks2 ms2 g) (o : Off (s + 6) 5 h g) : StAt s ro st mi he le wh si ca wn wt ks2 ms2 lD lL tp wa z g :=
  ⟨q.1.same (o.same (by omega)), q.2.1.same (o.same (by omega)), a, q.2.2.2.1.same (o.same (by omega)), q.2.2.2.2.1.same (o.same (by omega)), q.2.2.2.2.2.1.same (o.same (by omega)), q.2.2.2.2.2.2.same (o.same (by omega))⟩
theorem StAt.setD (q : StAt s ro st mi he le wh si ca wn wt ks ms lD lL tp wa z h) (a : TextAt (s + 11) 0 lD2 g) (o : Off (s + 11) 5 h g) : StAt s ro st mi he le wh si ca wn wt ks ms lD2 lL tp wa z g :=
  ⟨q.1.same (o.same (by omega)), q.2.1.same (o.same (by omega)), q.2.2.1.same (o.same (by omega)), a, q.2.2.2.2.1.same (o.same (by omega)), q.2.2.2.2.2.1.same (o.same (by omega)), q.2.2.2.2.2.2.same (o.same (by omega))⟩
theorem StAt.setL (q : StAt s ro st mi he le wh si ca wn wt ks ms lD lL tp wa z h) (a : TextAt (s + 16) 1 lL2 g) (o : Off (s + 16) 5 h g) : StAt s ro st mi he le wh si ca wn wt ks ms lD lL2 tp wa z g :=
  ⟨q.1.same (o.same (by omega)), q.2.1.same (o.same (by omega)), q.2.2.1.same (o.same (by omega)), q.2.2.2.1.same (o.same (by omega)), a, q.2.2.2.2.2.1.same (o.same (by omega)), q.2.2.2.2.2.2.same (o.same (by omega))⟩
theorem StAt.setT (q : StAt s ro st mi he le wh si ca wn wt ks ms lD lL tp wa z h) (a : RowAt (s + 21) 50 tp2 g) (o : Off (s + 21) 2 h g) : StAt s ro st mi he le wh si ca wn wt ks ms lD lL tp2 wa z g :=
  ⟨q.1.same (o.same (by omega)), q.2.1.same (o.same (by omega)), q.2.2.1.same (o.same (by omega)), q.2.2.2.1.same (o.same (by omega)), q.2.2.2.2.1.same (o.same (by omega)), a, q.2.2.2.2.2.2.same (o.same (by omega))⟩
theorem StAt.setN (q : StAt s ro st mi he le wh si ca wn wt ks ms lD lL tp wa z h) (a : RowAt (s + 23) 20 wa2 g) (o : Off (s + 23) 2 h g) : StAt s ro st mi he le wh si ca wn wt ks ms lD lL tp wa2 z g :=
  ⟨q.1.same (o.same (by omega)), q.2.1.same (o.same (by omega)), q.2.2.1.same (o.same (by omega)), q.2.2.2.1.same (o.same (by omega)), q.2.2.2.2.1.same (o.same (by omega)), q.2.2.2.2.2.1.same (o.same (by omega)), a⟩
theorem StAt.putZ (q : StAt s ro st mi he le wh si ca wn wt ks ms lD lL tp wa z g) : StAt s ro st mi he le wh si ca wn wt ks ms lD lL tp wa z2 (hset g s (.inr (.inr (6, [.ref (s + 1), .ref (s + 6), .ref (s + 11), .ref (s + 16), .ref (s + 21), .ref (s + 23), .int z2])))) := by
  have o : ∀ x : AE, Off s 1 g (hset g s x) := fun x => Off.one
  exact ⟨⟨q.1.1, hset_same _ _ _⟩, q.2.1.same ((o _).same (by omega)), q.2.2.1.same ((o _).same (by omega)), q.2.2.2.1.same ((o _).same (by omega)), q.2.2.2.2.1.same ((o _).same (by omega)), q.2.2.2.2.2.1.same ((o _).same (by omega)), q.2.2.2.2.2.2.same ((o _).same (by omega))⟩
def drawI (z : Int32) : Int32 := z * 1103515245 + 12345
def drawV (z n : Int32) : Int32 := if n ≤ 0 then 0 else ((drawI z).toUInt32 >>> ((8 : Int32).toUInt32 &&& Int32.toUInt32 31)).toInt32 % n
set_option maxHeartbeats 4000000 in
theorem ct_St_draw {n : Int32} (hR : StAt s ro st mi he le wh si ca wn wt ks ms lD lL tp wa z g) (hP : ∀ g', StAt s ro st mi he le wh si ca wn wt ks ms lD lL tp wa (drawI z) g' → Off s 25 g g' → P' g') : CV 1 0 0 mX7_draw s [.int n] g (fun v g' => v = some (.int (drawV z n)) ∧ P' g') := by
  refine ⟨hR.V, ?_⟩
  refine ct_of (by decide) (fun _ _ => Nat.le_of_ble_eq_true rfl) ?_
  dsimp only [pad, ent]
  unfold drawV
  refine aw_P (P' := fun g' => StAt s ro st mi he le wh si ca wn wt ks ms lD lL tp wa z g' ∧ Off s 25 g g') (fun g' e => by subst e; exact ⟨hR, Off.rf _ _ _⟩) ?_
  refine r_aload_n (pc := 0) dX7_draw_0 rfl ?_
  refine r_aload_n (pc := 1) dX7_draw_1 rfl ?_
  refine r_getf (pc := 2) (k := 6) dX7_draw_2 hX7 eX7 (by decide) fX7_45 (fun _ q => q.1.1) rfl ?_
  refine r_ldc (pc := 5) (v := 1103515245) dX7_draw_5 qX7_90 ?_
  refine r_imul (pc := 7) dX7_draw_7 ?_
  refine r_sipush (pc := 8) (v := 12345) dX7_draw_8 (by decide) ?_
  refine r_iadd (pc := 11) dX7_draw_11 ?_
  refine r_putf (pc := 12) (k := 6) (P' := fun g' => StAt s ro st mi he le wh si ca wn wt ks ms lD lL tp wa (drawI z) g' ∧ Off s 25 g g') tyX7 dX7_draw_12 hX7 tyX7_ok nmX7 eX7 (by decide) fX7_45 rfl rfl (fun _ _ => rfl) (fun _ _ => rfl) (Nat.le_of_ble_eq_true rfl) (fun _ q => q.1.1) (fun _ q => ⟨q.1.putZ, q.2.set (by omega) (by omega)⟩) ?_
  refine r_iload_n (pc := 15) dX7_draw_15 rfl ?_
  refine r_if_le (pc := 16) 31 dX7_draw_16 (by decide) (fun c16 => ?_) (fun c16 => ?_)
  · skip
    rw [if_pos c16]
    refine r_iconst (pc := 31) (v := 0) dX7_draw_31 (by decide) ?_
    refine r_ireturn (pc := 32) (ty := .int) dX7_draw_32 rfl rfl ⟨Nat.zero_le _, Nat.zero_le _⟩ (fun gE hg => ?_)
    exact ⟨rfl, hP _ hg.1 hg.2⟩
  · skip
    rw [if_neg c16]
    refine r_aload_n (pc := 19) dX7_draw_19 rfl ?_
    refine r_getf (pc := 20) (k := 6) dX7_draw_20 hX7 eX7 (by decide) fX7_45 (fun _ q => q.1.1) rfl ?_
    refine r_bipush (pc := 23) (v := 8) dX7_draw_23 (by decide) ?_
    refine r_iushr (pc := 25) dX7_draw_25 rfl ?_
    refine r_iload_n (pc := 26) dX7_draw_26 rfl ?_
    refine r_irem' (pc := 27) dX7_draw_27 (fun q => c16 (by rw [q]; decide)) ?_
    refine r_goto (pc := 28) 32 dX7_draw_28 (by decide) ?_
    refine r_ireturn (pc := 32) (ty := .int) dX7_draw_32 rfl rfl ⟨Nat.zero_le _, Nat.zero_le _⟩ (fun gE hg => ?_)
    exact ⟨rfl, hP _ hg.1 hg.2⟩
set_option maxHeartbeats 4000000 in
theorem ct_St_take (hR : StAt s ro st mi he le wh si ca wn wt ks ms lD lL tp wa z g) (hR2 : StAt s2 ro2 st2 mi2 he2 le2 wh2 si2 ca2 wn2 wt2 ks2 ms2 lD2 lL2 tp2 wa2 z2 g) (hd : s + 25 ≤ s2 ∨ s2 + 25 ≤ s) (hP : ∀ g', StAt s ro2 st2 mi2 he2 le2 wh2 si2 0 wn2 wt2 ks2 ms2 lD2 lL2 tp2 wa2 z2 g' → Off s 25 g g' → P' g') : CV 4 0 0 mX7_take s [.ref s2] g (fun v g' => v = none ∧ P' g') := by
  refine ⟨hR.V, ?_⟩
  refine ct_of (by decide) (fun _ _ => Nat.le_of_ble_eq_true rfl) ?_
  dsimp only [pad, ent]
  have l1 := hR2.2.2.2.2.2.1.2.1
  have l2 := hR2.2.2.2.2.2.2.2.1
  have h2 : ∀ g', Off s 25 g g' → StAt s2 ro2 st2 mi2 he2 le2 wh2 si2 ca2 wn2 wt2 ks2 ms2 lD2 lL2 tp2 wa2 z2 g' := fun g' o => hR2.same (o.same (by omega))
  refine aw_P (P' := fun g' => StAt s ro st mi he le wh si ca wn wt ks ms lD lL tp wa z g' ∧ Off s 25 g g') (fun g' e => by subst e; exact ⟨hR, Off.rf _ _ _⟩) ?_
  refine r_aload_n (pc := 0) dX7_take_0 rfl ?_
  refine r_getf (pc := 1) (k := 0) dX7_take_1 hX7 eX7 (by decide) fX7_10 (fun _ q => q.1.1) rfl ?_
  refine r_aload_n (pc := 4) dX7_take_4 rfl ?_
  refine r_getf (pc := 5) (k := 0) dX7_take_5 hX7 eX7 (by decide) fX7_10 (fun _ q => (h2 _ q.2).1) rfl ?_
  refine r_Vv (pc := 8) (μ' := mX0_take) dX7_take_8 nX7_49 iX0_take vX0_take kX0_take rfl rfl (rr (by decide) rfl) rfl ⟨Nat.zero_le _, Nat.zero_le _⟩ (fun g' q => ct_Ceil_take (P' := fun g2 => StAt s ro2 st2 mi2 he2 le2 wh2 si2 0 wn2 wt2 ks ms lD lL tp wa z g2 ∧ Off s 25 g g2) q.1.2.1 (h2 g' q.2).2.1 (by omega) (fun g2 a b => ⟨q.1.setC a b, q.2.tr (b.wide (by omega) (by omega))⟩)) ?_
  refine r_aload_n (pc := 11) dX7_take_11 rfl ?_
  refine r_getf (pc := 12) (k := 1) dX7_take_12 hX7 eX7 (by decide) fX7_19 (fun _ q => q.1.1) rfl ?_
  refine r_aload_n (pc := 15) dX7_take_15 rfl ?_
  refine r_getf (pc := 16) (k := 1) dX7_take_16 hX7 eX7 (by decide) fX7_19 (fun _ q => (h2 _ q.2).1) rfl ?_
  refine r_Vv (pc := 19) (μ' := mX1_take) dX7_take_19 nX7_53 iX1_take vX1_take kX1_take rfl rfl (rr (by decide) rfl) rfl ⟨Nat.zero_le _, Nat.zero_le _⟩ (fun g' q => ct_Crew_take (P' := fun g2 => StAt s ro2 st2 mi2 he2 le2 wh2 si2 0 wn2 wt2 ks2 ms2 lD lL tp wa z g2 ∧ Off s 25 g g2) q.1.2.2.1 (h2 g' q.2).2.2.1 (by omega) (fun g2 a b => ⟨q.1.setW a b, q.2.tr (b.wide (by omega) (by omega))⟩)) ?_
  refine r_aload_n (pc := 22) dX7_take_22 rfl ?_
  refine r_getf (pc := 23) (k := 2) dX7_take_23 hX7 eX7 (by decide) fX7_28 (fun _ q => q.1.1) rfl ?_
  refine r_aload_n (pc := 26) dX7_take_26 rfl ?_
  refine r_getf (pc := 27) (k := 2) dX7_take_27 hX7 eX7 (by decide) fX7_28 (fun _ q => (h2 _ q.2).1) rfl ?_
  refine r_Vv (pc := 30) (μ' := mX8_take) dX7_take_30 nX7_56 iX8_take vX8_take kX8_take rfl rfl (rr (by decide) rfl) rfl ⟨Nat.zero_le _, Nat.zero_le _⟩ (fun g' q => ct_Text_take (P' := fun g2 => StAt s ro2 st2 mi2 he2 le2 wh2 si2 0 wn2 wt2 ks2 ms2 lD2 lL tp wa z g2 ∧ Off s 25 g g2) q.1.2.2.2.1 (h2 g' q.2).2.2.2.1 (by omega) (fun g2 a b => ⟨q.1.setD a b, q.2.tr (b.wide (by omega) (by omega))⟩)) ?_
  refine r_aload_n (pc := 33) dX7_take_33 rfl ?_
  refine r_getf (pc := 34) (k := 3) dX7_take_34 hX7 eX7 (by decide) fX7_32 (fun _ q => q.1.1) rfl ?_
  refine r_aload_n (pc := 37) dX7_take_37 rfl ?_
  refine r_getf (pc := 38) (k := 3) dX7_take_38 hX7 eX7 (by decide) fX7_32 (fun _ q => (h2 _ q.2).1) rfl ?_
  refine r_Vv (pc := 41) (μ' := mX8_take) dX7_take_41 nX7_56 iX8_take vX8_take kX8_take rfl rfl (rr (by decide) rfl) rfl ⟨Nat.zero_le _, Nat.zero_le _⟩ (fun g' q => ct_Text_take (P' := fun g2 => StAt s ro2 st2 mi2 he2 le2 wh2 si2 0 wn2 wt2 ks2 ms2 lD2 lL2 tp wa z g2 ∧ Off s 25 g g2) q.1.2.2.2.2.1 (h2 g' q.2).2.2.2.2.1 (by omega) (fun g2 a b => ⟨q.1.setL a b, q.2.tr (b.wide (by omega) (by omega))⟩)) ?_
  refine r_aload_n (pc := 44) dX7_take_44 rfl ?_
  refine r_getf (pc := 45) (k := 4) dX7_take_45 hX7 eX7 (by decide) fX7_38 (fun _ q => q.1.1) rfl ?_
  refine r_aload_n (pc := 48) dX7_take_48 rfl ?_
  refine r_getf (pc := 49) (k := 4) dX7_take_49 hX7 eX7 (by decide) fX7_38 (fun _ q => (h2 _ q.2).1) rfl ?_
  refine r_Vv (pc := 52) (μ' := mX5_take) dX7_take_52 nX7_59 iX5_take vX5_take kX5_take rfl rfl (rr (by decide) rfl) rfl ⟨Nat.zero_le _, Nat.zero_le _⟩ (fun g' q => ct_Row_take (P' := fun g2 => StAt s ro2 st2 mi2 he2 le2 wh2 si2 0 wn2 wt2 ks2 ms2 lD2 lL2 tp2 wa z g2 ∧ Off s 25 g g2) q.1.2.2.2.2.2.1 (h2 g' q.2).2.2.2.2.2.1 (by omega) (fun g2 a b => by rw [take_all l1] at a; exact ⟨q.1.setT a b, q.2.tr (b.wide (by omega) (by omega))⟩)) ?_
  refine r_aload_n (pc := 55) dX7_take_55 rfl ?_
  refine r_getf (pc := 56) (k := 5) dX7_take_56 hX7 eX7 (by decide) fX7_42 (fun _ q => q.1.1) rfl ?_
  refine r_aload_n (pc := 59) dX7_take_59 rfl ?_
  refine r_getf (pc := 60) (k := 5) dX7_take_60 hX7 eX7 (by decide) fX7_42 (fun _ q => (h2 _ q.2).1) rfl ?_
  refine r_Vv (pc := 63) (μ' := mX5_take) dX7_take_63 nX7_59 iX5_take vX5_take kX5_take rfl rfl (rr (by decide) rfl) rfl ⟨Nat.zero_le _, Nat.zero_le _⟩ (fun g' q => ct_Row_take (P' := fun g2 => StAt s ro2 st2 mi2 he2 le2 wh2 si2 0 wn2 wt2 ks2 ms2 lD2 lL2 tp2 wa2 z g2 ∧ Off s 25 g g2) q.1.2.2.2.2.2.2 (h2 g' q.2).2.2.2.2.2.2 (by omega) (fun g2 a b => by rw [take_all l2] at a; exact ⟨q.1.setN a b, q.2.tr (b.wide (by omega) (by omega))⟩)) ?_
  refine r_aload_n (pc := 66) dX7_take_66 rfl ?_
  refine r_aload_n (pc := 67) dX7_take_67 rfl ?_
  refine r_getf (pc := 68) (k := 6) dX7_take_68 hX7 eX7 (by decide) fX7_45 (fun _ q => (h2 _ q.2).1) rfl ?_
  refine r_putf (pc := 71) (k := 6) (P' := fun g2 => StAt s ro2 st2 mi2 he2 le2 wh2 si2 0 wn2 wt2 ks2 ms2 lD2 lL2 tp2 wa2 z2 g2 ∧ Off s 25 g g2) tyX7 dX7_take_71 hX7 tyX7_ok nmX7 eX7 (by decide) fX7_45 rfl rfl (fun _ _ => rfl) (fun _ _ => rfl) (Nat.le_of_ble_eq_true rfl) (fun _ q => q.1.1) (fun _ q => ⟨q.1.putZ, q.2.set (by omega) (by omega)⟩) ?_
  refine r_return (pc := 74) dX7_take_74 rfl ⟨Nat.zero_le _, Nat.zero_le _⟩ (fun gE hg => ?_)
  exact ⟨rfl, hP _ hg.1 hg.2⟩
/-- a state in numbers: the ceiling as K, hands as kind and m -/
def StK (s : Nat) (K : CK) (hs : List (Nat × Nat)) (lD lL tp wa : List Int32) (z : Int32) (g : AH) : Prop :=
  StAt s (nI K.1) (nI K.2.1) (nI K.2.2.1) (nI K.2.2.2.1) (nI K.2.2.2.2.1) (nI K.2.2.2.2.2.1) (nI K.2.2.2.2.2.2.1) (nI K.2.2.2.2.2.2.2.1) (tab K.1 K.2.1 fun r s => iI (K.2.2.2.2.2.2.2.2.1 r s)) (tab K.1 K.2.1 fun r s => nI (K.2.2.2.2.2.2.2.2.2 r s)) (hs.map fun q => nI q.1) (hs.map fun q => nI q.2) lD lL tp wa z g
/-- hands are of the kinds, with numbers below 10 -/
def HOk (hs : List (Nat × Nat)) : Prop := hs.length ≤ 6 ∧ ∀ q ∈ hs, q.1 < 7 ∧ q.2 < 10
abbrev hKd (hs : List (Nat × Nat)) (i : Nat) : Nat := (hs.getD i (0, 0)).1
abbrev hMn (hs : List (Nat × Nat)) (i : Nat) : Nat := (hs.getD i (0, 0)).2
theorem hs_k {hs : List (Nat × Nat)} {i : Nat} (h : i < hs.length) (h2 : hs.length ≤ 6) : atL (hs.map fun q => nI q.1) (nI i) = nI (hKd hs i) := by
  rw [atL_nI (by omega), List.getD_eq_getElem?_getD, List.getElem?_map, List.getElem?_eq_getElem h]
  show nI hs[i].1 = nI (hs.getD i (0, 0)).1
  rw [List.getD_eq_getElem?_getD, List.getElem?_eq_getElem h]; rfl
theorem hs_m {hs : List (Nat × Nat)} {i : Nat} (h : i < hs.length) (h2 : hs.length ≤ 6) : atL (hs.map fun q => nI q.2) (nI i) = nI (hMn hs i) := by
  rw [atL_nI (by omega), List.getD_eq_getElem?_getD, List.getElem?_map, List.getElem?_eq_getElem h]
  show nI hs[i].2 = nI (hs.getD i (0, 0)).2
  rw [List.getD_eq_getElem?_getD, List.getElem?_eq_getElem h]; rfl
theorem HOk.at {hs : List (Nat × Nat)} (h : HOk hs) {i : Nat} (hi : i < hs.length) : hKd hs i < 7 ∧ hMn hs i < 10 := by
  unfold hKd hMn
  rw [List.getD_eq_getElem?_getD, List.getElem?_eq_getElem hi]
  exact h.2 _ (List.getElem_mem hi)
theorem StK.C {K : CK} {hs : List (Nat × Nat)} (q : StK s K hs lD lL tp wa z g) : CeilK (s + 1) K g := q.2.1
theorem StK.setC {K K2 : CK} {hs : List (Nat × Nat)} (q : StK s K hs lD lL tp wa z h) (a : CeilK (s + 1) K2 g) (o : Off (s + 1) 5 h g) : StK s K2 hs lD lL tp wa z g := StAt.setC q a o
end Sta
-- ===== a day =====
theorem StAt.o {s : Nat} {ro st mi he le wh si ca : Int32} {wn wt ks ms lD lL tp wa : List Int32} {z : Int32} {g : AH} (q : StAt s ro st mi he le wh si ca wn wt ks ms lD lL tp wa z g) : s < g.1 ∧ g.2 s = .inr (.inr (6, [.ref (s + 1), .ref (s + 6), .ref (s + 11), .ref (s + 16), .ref (s + 21), .ref (s + 23), .int z])) := q.1
theorem StAt.W {s : Nat} {ro st mi he le wh si ca : Int32} {wn wt ks ms lD lL tp wa : List Int32} {z : Int32} {g : AH} (q : StAt s ro st mi he le wh si ca wn wt ks ms lD lL tp wa z g) : CrewAt (s + 6) ks ms g := q.2.2.1
theorem StAt.Ci {s : Nat} {ro st mi he le wh si ca : Int32} {wn wt ks ms lD lL tp wa : List Int32} {z : Int32} {g : AH} (q : StAt s ro st mi he le wh si ca wn wt ks ms lD lL tp wa z g) : CeilI (s + 1) ro st mi he le wh si ca wn wt g := q.2.1
set_option maxHeartbeats 4000000 in
theorem ct_Ceil_mayBeRolled {c : Nat} {ro st mi he le wh si ca : Int32} {wn wt : List Int32} {g : AH} {P' : AH → Prop} (hR : CeilI c ro st mi he le wh si ca wn wt g) (hP : P' g) : CV 1 0 0 mX0_mayBeRolled c [] g (fun v g' => v = some (.int (b2i (decide (mi.toInt ≤ 9900)))) ∧ P' g') := by
  refine ⟨hR.V, ?_⟩
  refine ct_of (by decide) (fun _ _ => Nat.le_of_ble_eq_true rfl) ?_
  dsimp only [pad, ent]
  refine aw_P (P' := fun g' => CeilI c ro st mi he le wh si ca wn wt g' ∧ g' = g) (fun g' e => by subst e; exact ⟨hR, rfl⟩) ?_
  refine r_aload_n (pc := 0) dX0_mayBeRolled_0 rfl ?_
  refine r_getf (pc := 1) (k := 4) dX0_mayBeRolled_1 hX0 eX0 (by decide) fX0_28 (fun _ q => q.1.o) rfl ?_
  refine r_sipush (pc := 4) (v := 9900) dX0_mayBeRolled_4 (by decide) ?_
  refine r_icmp_gt (pc := 7) 14 dX0_mayBeRolled_7 (by decide) (fun c7 => ?_) (fun c7 => ?_)
  · skip
    have k7 : (9900 : Int) < mi.toInt := fa_lt.mp c7
    refine r_iconst (pc := 14) (v := 0) dX0_mayBeRolled_14 (by decide) ?_
    refine r_ireturn (pc := 15) (ty := .boolean) dX0_mayBeRolled_15 rfl rfl ⟨Nat.zero_le _, Nat.zero_le _⟩ (fun gE hg => ?_)
    refine ⟨?_, by rw [hg.2]; exact hP⟩
    first
    | (rw [decide_eq_true (by omega)]; rfl)
    | (rw [decide_eq_false (by omega)]; rfl)
  · skip
    have k7 : ¬ (9900 : Int) < mi.toInt := fun q => c7 (fa_lt.mpr q)
    refine r_iconst (pc := 10) (v := 1) dX0_mayBeRolled_10 (by decide) ?_
    refine r_goto (pc := 11) 15 dX0_mayBeRolled_11 (by decide) ?_
    refine r_ireturn (pc := 15) (ty := .boolean) dX0_mayBeRolled_15 rfl rfl ⟨Nat.zero_le _, Nat.zero_le _⟩ (fun gE hg => ?_)
    refine ⟨?_, by rw [hg.2]; exact hP⟩
    first
    | (rw [decide_eq_true (by omega)]; rfl)
    | (rw [decide_eq_false (by omega)]; rfl)
theorem draw_ok {z : Int32} {n : Nat} (h0 : 0 < n) (hn : n ≤ 4000) : drawV z (nI n) = nI (drawV z (nI n)).toInt.toNat ∧ (drawV z (nI n)).toInt.toNat < n := by
  have hT := nI_T hn
  have e : ¬ nI n ≤ 0 := fun q => by have := fa_le.mp q; rw [hT, t0] at this; omega
  have hsm : ((drawI z).toUInt32 >>> ((8 : Int32).toUInt32 &&& Int32.toUInt32 31)).toInt32.toBitVec.toNat = (drawI z).toBitVec.toNat / 2 ^ 8 := pk_ushr (drawI z) 8 8 (by decide)
  have hlt := (drawI z).toBitVec.isLt
  obtain ⟨k, hk⟩ : ∃ k, k = (drawI z).toBitVec.toNat / 2 ^ 8 := ⟨_, rfl⟩
  have hk2 : k < 2 ^ 24 := by omega
  have hx : ((drawI z).toUInt32 >>> ((8 : Int32).toUInt32 &&& Int32.toUInt32 31)).toInt32 = nI k := by
    apply Int32.toBitVec_inj.mp
    apply BitVec.eq_of_toNat_eq
    rw [hsm, pk_tn (by omega), hk]
  have hv : drawV z (nI n) = nI (k % n) := by
    unfold drawV
    rw [if_neg e, hx, ← i32_rem]
    exact pk_rem (by omega) h0 (by omega)
  have hm := Nat.mod_lt k h0
  rw [hv, nI_T (by omega)]
  exact ⟨by rw [Int.toNat_natCast], by rw [Int.toNat_natCast]; exact hm⟩
def drawN (z : Int32) (n : Nat) : Nat := (drawV z (nI n)).toInt.toNat
def cap9 (a : Nat) : Nat := if a < 9999 then a else 9999
theorem cap9_le (a : Nat) : cap9 a ≤ 9999 := by unfold cap9; split <;> omega
def setMi (K : CK) (mi : Nat) : CK := match K with
  | (ro, st, _, he, le, wh, si, ca, w, v) => (ro, st, mi, he, le, wh, si, ca, w, v)
/-- a DAY: the ceiling, z -/
def dayK (hs : List (Nat × Nat)) (K : CK) (z : Int32) : CK :=
  if cap9 (kMi K + drawN (drawI (drawI (drawI z))) 8) ≤ 9900 then paintK (hKd hs (drawN z hs.length)) (hMn hs (drawN z hs.length)) (drawN (drawI z) (kSt K)) (decide (drawN (drawI (drawI z)) 2 = 1)) (setMi K (cap9 (kMi K + drawN (drawI (drawI (drawI z))) 8)))
  else setMi K (cap9 (kMi K + drawN (drawI (drawI (drawI z))) 8))
def dayZ (z : Int32) : Int32 := drawI (drawI (drawI (drawI z)))
theorem setMi_ok {K : CK} {mi : Nat} (h : KOk K) : KOk (setMi K mi) := h
section Day
variable {s : Nat} {K : CK} {hs : List (Nat × Nat)} {lD lL tp wa : List Int32} {z : Int32} {g h : AH} {P' : AH → Prop}
theorem dr' (hR : StK s K hs lD lL tp wa z g) (o : ∀ g', Off s 25 g g' → Off s 25 h g') {n : Nat} (h0 : 0 < n) (hn : n ≤ 4000) : CV 1 0 0 mX7_draw s [.int (nI n)] g (fun v g' => v = some (.int (nI (drawN z n))) ∧ (StK s K hs lD lL tp wa (drawI z) g' ∧ Off s 25 h g')) := by
  have := ct_St_draw (n := nI n) (P' := fun g' => StK s K hs lD lL tp wa (drawI z) g' ∧ Off s 25 h g') hR (fun g' a b => ⟨a, o g' b⟩)
  rw [(draw_ok h0 hn).1] at this
  exact this
theorem min9999 {a : Nat} (h : a ≤ 1000000) : (if nI a < 9999 then nI a else 9999) = nI (cap9 a) := by
  have hT : (nI a).toInt = (a : Int) := nI_toInt (by omega)
  have h9 : (9999 : Int32).toInt = 9999 := rfl
  unfold cap9
  by_cases e : a < 9999
  · rw [if_pos e, if_pos (fa_lt.mpr (by rw [hT, h9]; omega))]
  · rw [if_neg e, if_neg (fun q => by have := fa_lt.mp q; rw [hT, h9] at this; omega)]; rfl
set_option maxHeartbeats 8000000 in
theorem ct_St_passDay (hR : StK s K hs lD lL tp wa z g) (ok : KOk K) (hok : HOk hs) (h0 : 0 < hs.length) (hm : kMi K ≤ 9999) (hP : ∀ g', StK s (dayK hs K z) hs lD lL tp wa (dayZ z) g' → Off s 25 g g' → P' g') : CV 5 0 0 mX7_passDay s [] g (fun v g' => v = none ∧ P' g') := by
  refine ⟨hR.V, ?_⟩
  refine ct_of (by decide) (fun _ _ => Nat.le_of_ble_eq_true rfl) ?_
  dsimp only [pad, ent]
  have hst : 1 ≤ kSt K ∧ kSt K ≤ 6 := ok.2.1
  have hl := hok.1
  have hd1 := (draw_ok (z := z) h0 (by omega)).2
  have hd2 := (draw_ok (z := drawI z) (n := kSt K) (by omega) (by omega)).2
  have hd3 := (draw_ok (z := drawI (drawI z)) (n := 2) (by omega) (by omega)).2
  have hd4 := (draw_ok (z := drawI (drawI (drawI z))) (n := 8) (by omega) (by omega)).2
  obtain ⟨hk7, hm10⟩ := hok.at hd1
  unfold dayK at hP
  obtain ⟨mi2, hmi2⟩ : ∃ m, m = cap9 (kMi K + drawN (drawI (drawI (drawI z))) 8) := ⟨_, rfl⟩
  rw [← hmi2] at hP
  have hmle : mi2 ≤ 9999 := by rw [hmi2]; exact cap9_le _
  have hTm : (nI mi2).toInt = (mi2 : Int) := nI_toInt (by omega)
  have hTm2 : (nI (setMi K mi2).2.2.1).toInt = (mi2 : Int) := hTm
  have hm2 : K.2.2.1 ≤ 9999 := hm
  have h9 : (9900 : Int32).toInt = 9900 := rfl
  refine aw_P (P' := fun g' => StK s K hs lD lL tp wa z g' ∧ Off s 25 g g') (fun g' e => by subst e; exact ⟨hR, Off.rf _ _ _⟩) ?_
  refine r_aload_n (pc := 0) dX7_passDay_0 rfl ?_
  refine r_aload_n (pc := 1) dX7_passDay_1 rfl ?_
  refine r_getf (pc := 2) (k := 1) dX7_passDay_2 hX7 eX7 (by decide) fX7_19 (fun _ q => StAt.o q.1) rfl ?_
  refine r_Vi (pc := 5) (μ' := mX1_size) dX7_passDay_5 nX7_62 iX1_size vX1_size kX1_size rfl rfl (rr (by decide) rfl) rfl ⟨Nat.zero_le _, Nat.zero_le _⟩ (fun g' q => ct_Crew_size (StAt.W q.1) q) ?_
  rw [List.length_map]
  refine r_Vi (pc := 8) (μ' := mX7_draw) dX7_passDay_8 nX7_66 iX7_draw vX7_draw kX7_draw rfl rfl (rr (by decide) rfl) rfl ⟨Nat.zero_le _, Nat.zero_le _⟩ (fun g' q => dr' q.1 (fun _ b => q.2.tr b) h0 (by omega)) ?_
  refine r_istore_n (pc := 11) dX7_passDay_11 rfl (Nat.le_of_ble_eq_true rfl) rfl ?_
  dsimp only [lset]
  refine r_aload_n (pc := 12) dX7_passDay_12 rfl ?_
  refine r_aload_n (pc := 13) dX7_passDay_13 rfl ?_
  refine r_getf (pc := 14) (k := 0) dX7_passDay_14 hX7 eX7 (by decide) fX7_10 (fun _ q => StAt.o q.1) rfl ?_
  refine r_Vi (pc := 17) (μ' := mX0_strips) dX7_passDay_17 nX7_70 iX0_strips vX0_strips kX0_strips rfl rfl (rr (by decide) rfl) rfl ⟨Nat.zero_le _, Nat.zero_le _⟩ (fun g' q => ct_Ceil_strips (StAt.Ci q.1) q) ?_
  refine r_Vi (pc := 20) (μ' := mX7_draw) dX7_passDay_20 nX7_66 iX7_draw vX7_draw kX7_draw rfl rfl (rr (by decide) rfl) rfl ⟨Nat.zero_le _, Nat.zero_le _⟩ (fun g' q => dr' q.1 (fun _ b => q.2.tr b) (n := kSt K) (by omega) (by omega)) ?_
  refine r_istore_n (pc := 23) dX7_passDay_23 rfl (Nat.le_of_ble_eq_true rfl) rfl ?_
  dsimp only [lset]
  refine r_aload_n (pc := 24) dX7_passDay_24 rfl ?_
  refine r_iconst (pc := 25) (v := 2) dX7_passDay_25 (by decide) ?_
  rw [show (2 : Int32) = nI 2 from rfl]
  refine r_Vi (pc := 26) (μ' := mX7_draw) dX7_passDay_26 nX7_66 iX7_draw vX7_draw kX7_draw rfl rfl (rr (by decide) rfl) rfl ⟨Nat.zero_le _, Nat.zero_le _⟩ (fun g' q => dr' q.1 (fun _ b => q.2.tr b) (by omega) (by omega)) ?_
  refine r_istore_n (pc := 29) dX7_passDay_29 rfl (Nat.le_of_ble_eq_true rfl) rfl ?_
  dsimp only [lset]
  refine r_aload_n (pc := 30) dX7_passDay_30 rfl ?_
  refine r_getf (pc := 31) (k := 0) dX7_passDay_31 hX7 eX7 (by decide) fX7_10 (fun _ q => StAt.o q.1) rfl ?_
  refine r_aload_n (pc := 34) dX7_passDay_34 rfl ?_
  refine r_bipush (pc := 35) (v := 8) dX7_passDay_35 (by decide) ?_
  rw [show (8 : Int32) = nI 8 from rfl]
  refine r_Vi (pc := 37) (μ' := mX7_draw) dX7_passDay_37 nX7_66 iX7_draw vX7_draw kX7_draw rfl rfl (rr (by decide) rfl) rfl ⟨Nat.zero_le _, Nat.zero_le _⟩ (fun g' q => dr' q.1 (fun _ b => q.2.tr b) (by omega) (by omega)) ?_
  refine r_Vv (pc := 40) (μ' := mX0_letPassWithinBounds) dX7_passDay_40 nX7_73 iX0_letPassWithinBounds vX0_letPassWithinBounds kX0_letPassWithinBounds rfl rfl (rr (by decide) rfl) rfl ⟨Nat.zero_le _, Nat.zero_le _⟩ (fun g' q => ct_Ceil_letPassWithinBounds (P' := fun g2 => StK s (setMi K mi2) hs lD lL tp wa (dayZ z) g2 ∧ Off s 25 g g2) (StAt.Ci q.1) (fun g2 a b => by
        rw [nI_add, min9999 (by have : drawN (drawI (drawI (drawI z))) 8 < 8 := hd4; omega), ← hmi2] at a
        exact ⟨StK.setC q.1 a b, q.2.tr (b.wide (by omega) (by omega))⟩)) ?_
  refine r_aload_n (pc := 43) dX7_passDay_43 rfl ?_
  refine r_getf (pc := 44) (k := 0) dX7_passDay_44 hX7 eX7 (by decide) fX7_10 (fun _ q => StAt.o q.1) rfl ?_
  refine r_Vi (pc := 47) (μ' := mX0_mayBeRolled) dX7_passDay_47 nX7_76 iX0_mayBeRolled vX0_mayBeRolled kX0_mayBeRolled rfl rfl (rr (by decide) rfl) rfl ⟨Nat.zero_le _, Nat.zero_le _⟩ (fun g' q => ct_Ceil_mayBeRolled (StAt.Ci q.1) q) ?_
  refine r_if_eq (pc := 50) 87 dX7_passDay_50 (by decide) (fun c50 => ?_) (fun c50 => ?_)
  · skip
    have k50 : ¬ mi2 ≤ 9900 := fun z => by
      have e : nI mi2 ≤ 9900 := fa_le.mpr (by rw [hTm, h9]; omega)
      rw [show b2i (decide ((nI (setMi K mi2).2.2.1).toInt ≤ 9900)) = 1 by rw [decide_eq_true (show (nI (setMi K mi2).2.2.1).toInt ≤ 9900 by omega)]; rfl] at c50
      exact absurd c50 (by decide)
    rw [if_neg k50] at hP
    refine r_return (pc := 87) dX7_passDay_87 rfl ⟨Nat.zero_le _, Nat.zero_le _⟩ (fun gE hg => ?_)
    first
    | exact ⟨rfl, hg⟩
    | exact ⟨rfl, hP _ hg.1 hg.2⟩
  · skip
    have k50 : mi2 ≤ 9900 := Decidable.byContradiction fun z => by
      rw [show b2i (decide ((nI (setMi K mi2).2.2.1).toInt ≤ 9900)) = 0 by rw [decide_eq_false (show ¬ (nI (setMi K mi2).2.2.1).toInt ≤ 9900 by omega)]; rfl] at c50
      exact c50 rfl
    rw [if_pos k50] at hP
    refine r_aload_n (pc := 53) dX7_passDay_53 rfl ?_
    refine r_getf (pc := 54) (k := 0) dX7_passDay_54 hX7 eX7 (by decide) fX7_10 (fun _ q => StAt.o q.1) rfl ?_
    refine r_aload_n (pc := 57) dX7_passDay_57 rfl ?_
    refine r_getf (pc := 58) (k := 1) dX7_passDay_58 hX7 eX7 (by decide) fX7_19 (fun _ q => StAt.o q.1) rfl ?_
    refine r_iload_n (pc := 61) dX7_passDay_61 rfl ?_
    refine r_Vi (pc := 62) (μ' := mX1_kindOf) dX7_passDay_62 nX7_80 iX1_kindOf vX1_kindOf kX1_kindOf rfl rfl (rr (by decide) rfl) rfl ⟨Nat.zero_le _, Nat.zero_le _⟩ (fun g' q => ct_Crew_kindOf (StAt.W q.1) q) ?_
    rw [hs_k (i := drawN z hs.length) hd1 hl]
    refine r_aload_n (pc := 65) dX7_passDay_65 rfl ?_
    refine r_getf (pc := 66) (k := 1) dX7_passDay_66 hX7 eX7 (by decide) fX7_19 (fun _ q => StAt.o q.1) rfl ?_
    refine r_iload_n (pc := 69) dX7_passDay_69 rfl ?_
    refine r_Vi (pc := 70) (μ' := mX1_numberOf) dX7_passDay_70 nX7_83 iX1_numberOf vX1_numberOf kX1_numberOf rfl rfl (rr (by decide) rfl) rfl ⟨Nat.zero_le _, Nat.zero_le _⟩ (fun g' q => ct_Crew_numberOf (StAt.W q.1) q) ?_
    rw [hs_m (i := drawN z hs.length) hd1 hl]
    refine r_iload_n (pc := 73) dX7_passDay_73 rfl ?_
    refine r_iload_n (pc := 74) dX7_passDay_74 rfl ?_
    refine r_iconst (pc := 75) (v := 1) dX7_passDay_75 (by decide) ?_
    refine r_icmp_ne (pc := 76) 83 dX7_passDay_76 (by decide) (fun c76 => ?_) (fun c76 => ?_)
    · skip
      have e : decide (drawN (drawI (drawI z)) 2 = 1) = false := decide_eq_false (fun z => c76 (by rw [z]; rfl))
      rw [e] at hP
      have e2 : (0 : Int32) = b2i false := rfl
      refine r_iconst (pc := 83) (v := 0) dX7_passDay_83 (by decide) ?_
      rw [e2]
      refine r_Vv (pc := 84) (μ' := mX0_paint) dX7_passDay_84 nX7_86 iX0_paint vX0_paint kX0_paint rfl rfl (rr (by decide) rfl) rfl ⟨Nat.zero_le _, Nat.zero_le _⟩ (fun g' q => ct_Ceil_paint q.1.C (setMi_ok ok) hk7 hm10 hd2 (fun g2 a b => hP g2 (q.1.setC a b) (q.2.tr (b.wide (by omega) (by omega))))) ?_
      refine r_return (pc := 87) dX7_passDay_87 rfl ⟨Nat.zero_le _, Nat.zero_le _⟩ (fun gE hg => ?_)
      first
      | exact ⟨rfl, hg⟩
      | exact ⟨rfl, hP _ hg.1 hg.2⟩
    · skip
      have e : decide (drawN (drawI (drawI z)) 2 = 1) = true := decide_eq_true (by have := fa_eq.mp c76; rw [nI_T (by have : drawN (drawI (drawI z)) 2 < 2 := hd3; omega), t1] at this; omega)
      rw [e] at hP
      have e2 : (1 : Int32) = b2i true := rfl
      refine r_iconst (pc := 79) (v := 1) dX7_passDay_79 (by decide) ?_
      refine r_goto (pc := 80) 84 dX7_passDay_80 (by decide) ?_
      rw [e2]
      refine r_Vv (pc := 84) (μ' := mX0_paint) dX7_passDay_84 nX7_86 iX0_paint vX0_paint kX0_paint rfl rfl (rr (by decide) rfl) rfl ⟨Nat.zero_le _, Nat.zero_le _⟩ (fun g' q => ct_Ceil_paint q.1.C (setMi_ok ok) hk7 hm10 hd2 (fun g2 a b => hP g2 (q.1.setC a b) (q.2.tr (b.wide (by omega) (by omega))))) ?_
      refine r_return (pc := 87) dX7_passDay_87 rfl ⟨Nat.zero_le _, Nat.zero_le _⟩ (fun gE hg => ?_)
      first
      | exact ⟨rfl, hg⟩
      | exact ⟨rfl, hP _ hg.1 hg.2⟩
end Day
