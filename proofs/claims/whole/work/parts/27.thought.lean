/-! WHAT WOULD BE (OneGoCeiling$Thought): its ceiling, its rows -/
def ThObj (θ ε : Nat) (be : Int32) (g : AH) : Prop := θ < g.1 ∧ g.2 θ = .inr (.inr (8, [.ref ε, .ref (θ + 1), .ref (θ + 6), .ref (θ + 8), .ref (θ + 10), .ref (θ + 12), .ref (θ + 14), .ref (θ + 16), .int be]))
def ThRows (θ : Nat) (sp pl bs sb sw sx : List Int32) (g : AH) : Prop := RowAt (θ + 6) 6 sp g ∧ RowAt (θ + 8) 6 pl g ∧ RowAt (θ + 10) 6 bs g ∧ RowAt (θ + 12) 216 sb g ∧ RowAt (θ + 14) 6 sw g ∧ RowAt (θ + 16) 6 sx g
/-- the thought at θ -/
def ThK (θ ε : Nat) (be : Int32) (K : CK) (sp pl bs sb sw sx : List Int32) (g : AH) : Prop := ThObj θ ε be g ∧ CeilK (θ + 1) K g ∧ ThRows θ sp pl bs sb sw sx g
/-- the thought, whatever was thought last -/
def ThAny (θ ε : Nat) (g : AH) : Prop := ∃ (be : Int32) (K : CK) (sp pl bs sb sw sx : List Int32), ThK θ ε be K sp pl bs sb sw sx g
section Tho
variable {θ ε td s : Nat} {be be2 : Int32} {K K2 : CK} {sp pl bs sb sw sx sp2 pl2 bs2 sb2 sw2 sx2 lD lL tp wa : List Int32} {hs : List (Nat × Nat)} {z : Int32} {g h : AH} {P' : AH → Prop}
theorem ThObj.same (q : ThObj θ ε be h) (e : Same θ 1 h g) : ThObj θ ε be g := ⟨by rw [e.1]; exact q.1, by rw [e.2 θ (by omega) (by omega)]; exact q.2⟩
theorem ThRows.same (q : ThRows θ sp pl bs sb sw sx h) (e : Same (θ + 6) 12 h g) : ThRows θ sp pl bs sb sw sx g :=
  ⟨q.1.same (e.sub (by omega) (by omega)), q.2.1.same (e.sub (by omega) (by omega)), q.2.2.1.same (e.sub (by omega) (by omega)), q.2.2.2.1.same (e.sub (by omega) (by omega)), q.2.2.2.2.1.same (e.sub (by omega) (by omega)), q.2.2.2.2.2.same (e.sub (by omega) (by omega))⟩
theorem ThK.o (q : ThK θ ε be K sp pl bs sb sw sx g) : θ < g.1 ∧ g.2 θ = .inr (.inr (8, [.ref ε, .ref (θ + 1), .ref (θ + 6), .ref (θ + 8), .ref (θ + 10), .ref (θ + 12), .ref (θ + 14), .ref (θ + 16), .int be])) := q.1
theorem ThK.V (q : ThK θ ε be K sp pl bs sb sw sx g) : ∃ (fs : List Value) (T : u_T) (N : Nat), θ < g.1 ∧ g.2 θ = .inr (.inr (8, fs)) ∧ vwCl[8]? = some (RX9, T, N) := ⟨_, _, _, q.1.1, q.1.2, rfl⟩
theorem ThK.same (q : ThK θ ε be K sp pl bs sb sw sx h) (e : Same θ 18 h g) : ThK θ ε be K sp pl bs sb sw sx g := ⟨q.1.same (e.sub (by omega) (by omega)), q.2.1.same (e.sub (by omega) (by omega)), q.2.2.same (e.sub (by omega) (by omega))⟩
theorem ThK.setC (q : ThK θ ε be K sp pl bs sb sw sx h) (a : CeilK (θ + 1) K2 g) (o : Off (θ + 1) 5 h g) : ThK θ ε be K2 sp pl bs sb sw sx g := ⟨q.1.same (o.same (by omega)), a, q.2.2.same (o.same (by omega))⟩
theorem ThK.putB (q : ThK θ ε be K sp pl bs sb sw sx g) : ThK θ ε be2 K sp pl bs sb sw sx (hset g θ (.inr (.inr (8, [.ref ε, .ref (θ + 1), .ref (θ + 6), .ref (θ + 8), .ref (θ + 10), .ref (θ + 12), .ref (θ + 14), .ref (θ + 16), .int be2])))) := by
  have o : ∀ x : AE, Off θ 1 g (hset g θ x) := fun x => Off.one
  exact ⟨⟨q.1.1, hset_same _ _ _⟩, q.2.1.same ((o _).same (by omega)), q.2.2.same ((o _).same (by omega))⟩
theorem ThK.set_sp {l : List Int32} (q : ThK θ ε be K sp pl bs sb sw sx h) (a : RowAt (θ + 6) 6 l g) (o : Off (θ + 6) 2 h g) : ThK θ ε be K l pl bs sb sw sx g := ⟨q.1.same (o.same (by omega)), q.2.1.same (o.same (by omega)), a, q.2.2.2.1.same (o.same (by omega)), q.2.2.2.2.1.same (o.same (by omega)), q.2.2.2.2.2.1.same (o.same (by omega)), q.2.2.2.2.2.2.1.same (o.same (by omega)), q.2.2.2.2.2.2.2.same (o.same (by omega))⟩
theorem ThK.set_pl {l : List Int32} (q : ThK θ ε be K sp pl bs sb sw sx h) (a : RowAt (θ + 8) 6 l g) (o : Off (θ + 8) 2 h g) : ThK θ ε be K sp l bs sb sw sx g := ⟨q.1.same (o.same (by omega)), q.2.1.same (o.same (by omega)), q.2.2.1.same (o.same (by omega)), a, q.2.2.2.2.1.same (o.same (by omega)), q.2.2.2.2.2.1.same (o.same (by omega)), q.2.2.2.2.2.2.1.same (o.same (by omega)), q.2.2.2.2.2.2.2.same (o.same (by omega))⟩
theorem ThK.set_bs {l : List Int32} (q : ThK θ ε be K sp pl bs sb sw sx h) (a : RowAt (θ + 10) 6 l g) (o : Off (θ + 10) 2 h g) : ThK θ ε be K sp pl l sb sw sx g := ⟨q.1.same (o.same (by omega)), q.2.1.same (o.same (by omega)), q.2.2.1.same (o.same (by omega)), q.2.2.2.1.same (o.same (by omega)), a, q.2.2.2.2.2.1.same (o.same (by omega)), q.2.2.2.2.2.2.1.same (o.same (by omega)), q.2.2.2.2.2.2.2.same (o.same (by omega))⟩
theorem ThK.set_sb {l : List Int32} (q : ThK θ ε be K sp pl bs sb sw sx h) (a : RowAt (θ + 12) 216 l g) (o : Off (θ + 12) 2 h g) : ThK θ ε be K sp pl bs l sw sx g := ⟨q.1.same (o.same (by omega)), q.2.1.same (o.same (by omega)), q.2.2.1.same (o.same (by omega)), q.2.2.2.1.same (o.same (by omega)), q.2.2.2.2.1.same (o.same (by omega)), a, q.2.2.2.2.2.2.1.same (o.same (by omega)), q.2.2.2.2.2.2.2.same (o.same (by omega))⟩
theorem ThK.set_sw {l : List Int32} (q : ThK θ ε be K sp pl bs sb sw sx h) (a : RowAt (θ + 14) 6 l g) (o : Off (θ + 14) 2 h g) : ThK θ ε be K sp pl bs sb l sx g := ⟨q.1.same (o.same (by omega)), q.2.1.same (o.same (by omega)), q.2.2.1.same (o.same (by omega)), q.2.2.2.1.same (o.same (by omega)), q.2.2.2.2.1.same (o.same (by omega)), q.2.2.2.2.2.1.same (o.same (by omega)), a, q.2.2.2.2.2.2.2.same (o.same (by omega))⟩
theorem ThK.set_sx {l : List Int32} (q : ThK θ ε be K sp pl bs sb sw sx h) (a : RowAt (θ + 16) 6 l g) (o : Off (θ + 16) 2 h g) : ThK θ ε be K sp pl bs sb sw l g := ⟨q.1.same (o.same (by omega)), q.2.1.same (o.same (by omega)), q.2.2.1.same (o.same (by omega)), q.2.2.2.1.same (o.same (by omega)), q.2.2.2.2.1.same (o.same (by omega)), q.2.2.2.2.2.1.same (o.same (by omega)), q.2.2.2.2.2.2.1.same (o.same (by omega)), a⟩
theorem ThK.any (q : ThK θ ε be K sp pl bs sb sw sx g) : ThAny θ ε g := ⟨_, _, _, _, _, _, _, _, q⟩
theorem ThAny.same (q : ThAny θ ε h) (e : Same θ 18 h g) : ThAny θ ε g := by
  obtain ⟨be, K0, sp0, pl0, bs0, sb0, sw0, sx0, a⟩ := q
  exact ⟨be, K0, sp0, pl0, bs0, sb0, sw0, sx0, a.same e⟩
def noCan (K : CK) : CK := match K with
  | (ro, st, mi, he, le, wh, si, _, w, v) => (ro, st, mi, he, le, wh, si, 0, w, v)
theorem noCan_ok {K : CK} (h : KOk K) : KOk (noCan K) := h
set_option maxHeartbeats 4000000 in
theorem ct_Th_begin (hT : ThAny θ ε g) (hN : StK s K hs lD lL tp wa z g) (hd : θ + 18 ≤ s ∨ s + 25 ≤ θ) (hP : ∀ g' be sp pl bs sb sw sx, ThK θ ε be (noCan K) sp pl bs sb sw sx g' → Off θ 18 g g' → P' g') : CV 4 0 0 mX9_begin θ [.ref s] g (fun v g' => v = none ∧ P' g') := by
  obtain ⟨be, K0, sp0, pl0, bs0, sb0, sw0, sx0, a⟩ := hT
  refine ⟨a.V, ?_⟩
  refine ct_of (by decide) (fun _ _ => Nat.le_of_ble_eq_true rfl) ?_
  dsimp only [pad, ent]
  have hn : ∀ g', Off θ 18 g g' → StK s K hs lD lL tp wa z g' := fun g' o => StAt.same hN (o.same (by omega))
  refine aw_P (P' := fun g' => ThK θ ε be K0 sp0 pl0 bs0 sb0 sw0 sx0 g' ∧ Off θ 18 g g') (fun g' e => by subst e; exact ⟨a, Off.rf _ _ _⟩) ?_
  refine r_aload_n (pc := 0) dX9_begin_0 rfl ?_
  refine r_getf (pc := 1) (k := 1) dX9_begin_1 hX9 eX9 (by decide) fX9_10 (fun _ q => q.1.o) rfl ?_
  refine r_aload_n (pc := 4) dX9_begin_4 rfl ?_
  refine r_getf (pc := 5) (k := 0) dX9_begin_5 hX7 eX7 (by decide) fX9_48 (fun _ q => StAt.o (hn _ q.2)) rfl ?_
  refine r_Vv (pc := 8) (μ' := mX0_take) dX9_begin_8 nX9_51 iX0_take vX0_take kX0_take rfl rfl (rr (by decide) rfl) rfl ⟨Nat.zero_le _, Nat.zero_le _⟩ (fun g' q => ct_Ceil_take (q.1.2.1 : CeilI _ _ _ _ _ _ _ _ _ _ _ _) (StAt.Ci (hn _ q.2)) (by omega) (fun g2 x y => hP g2 be _ _ _ _ _ _ (q.1.setC (K2 := noCan K) x y) (q.2.tr (y.wide (by omega) (by omega))))) ?_
  refine r_return (pc := 11) dX9_begin_11 rfl ⟨Nat.zero_le _, Nat.zero_le _⟩ (fun gE hg => ?_)
  exact ⟨rfl, hg⟩
set_option maxHeartbeats 4000000 in
theorem ct_Th_rollNext {i p : Nat} (hT : ThK θ ε be K2 sp pl bs sb sw sx g) (hN : StK s K hs lD lL tp wa z g) (hd : θ + 18 ≤ s ∨ s + 25 ≤ θ) (ok : KOk K2) (hok : HOk hs) (hi : i < hs.length) (hp : p ≤ 4000) (hP : ∀ g', ThK θ ε be (paintK (hKd hs i) (hMn hs i) (p % kSt K2) false K2) sp pl bs sb sw sx g' → Off θ 18 g g' → P' g') : CV 4 0 0 mX9_rollNext θ [.ref s, .int (nI i), .int (nI p)] g (fun v g' => v = none ∧ P' g') := by
  refine ⟨hT.V, ?_⟩
  refine ct_of (by decide) (fun _ _ => Nat.le_of_ble_eq_true rfl) ?_
  dsimp only [pad, ent]
  have hst : 1 ≤ kSt K2 ∧ kSt K2 ≤ 6 := ok.2.1
  have hTs : (nI K2.2.1).toInt = (kSt K2 : Int) := nI_T (n := kSt K2) (by omega)
  have hs0 : ¬ nI K2.2.1 ≤ 0 := fun q => by have := fa_le.mp q; rw [hTs, t0] at this; omega
  have hn : ∀ g', Off θ 18 g g' → StK s K hs lD lL tp wa z g' := fun g' o => StAt.same hN (o.same (by omega))
  have hlt := Nat.mod_lt p (show 0 < kSt K2 by omega)
  refine aw_P (P' := fun g' => ThK θ ε be K2 sp pl bs sb sw sx g' ∧ Off θ 18 g g') (fun g' e => by subst e; exact ⟨hT, Off.rf _ _ _⟩) ?_
  refine r_aload_n (pc := 0) dX9_rollNext_0 rfl ?_
  refine r_getf (pc := 1) (k := 1) dX9_rollNext_1 hX9 eX9 (by decide) fX9_10 (fun _ q => q.1.o) rfl ?_
  refine r_Vi (pc := 4) (μ' := mX0_strips) dX9_rollNext_4 nX9_55 iX0_strips vX0_strips kX0_strips rfl rfl (rr (by decide) rfl) rfl ⟨Nat.zero_le _, Nat.zero_le _⟩ (fun g' q => ct_Ceil_strips (q.1.2.1 : CeilI _ _ _ _ _ _ _ _ _ _ _ _) q) ?_
  refine r_if_le (pc := 7) 22 dX9_rollNext_7 (by decide) (fun c7 => ?_) (fun c7 => ?_)
  · skip
    exact absurd c7 hs0
  · skip
    refine r_iload_n (pc := 10) dX9_rollNext_10 rfl ?_
    refine r_aload_n (pc := 11) dX9_rollNext_11 rfl ?_
    refine r_getf (pc := 12) (k := 1) dX9_rollNext_12 hX9 eX9 (by decide) fX9_10 (fun _ q => q.1.o) rfl ?_
    refine r_Vi (pc := 15) (μ' := mX0_strips) dX9_rollNext_15 nX9_55 iX0_strips vX0_strips kX0_strips rfl rfl (rr (by decide) rfl) rfl ⟨Nat.zero_le _, Nat.zero_le _⟩ (fun g' q => ct_Ceil_strips (q.1.2.1 : CeilI _ _ _ _ _ _ _ _ _ _ _ _) q) ?_
    refine r_irem' (pc := 18) dX9_rollNext_18 (fun q => hs0 (by rw [q]; decide)) ?_
    rw [show nI p % nI K2.2.1 = nI (p % kSt K2) by rw [show nI K2.2.1 = nI (kSt K2) from rfl, ← i32_rem]; exact pk_rem (by omega) (by omega) (by omega)]
    refine r_goto (pc := 19) 23 dX9_rollNext_19 (by decide) ?_
    refine r_istore (pc := 23) dX9_rollNext_23 (Nat.le_of_ble_eq_true rfl) rfl ?_
    dsimp only [lset]
    refine r_aload_n (pc := 25) dX9_rollNext_25 rfl ?_
    refine r_getf (pc := 26) (k := 1) dX9_rollNext_26 hX9 eX9 (by decide) fX9_10 (fun _ q => q.1.o) rfl ?_
    refine r_aload_n (pc := 29) dX9_rollNext_29 rfl ?_
    refine r_getf (pc := 30) (k := 1) dX9_rollNext_30 hX7 eX7 (by decide) fX9_58 (fun _ q => StAt.o (hn _ q.2)) rfl ?_
    refine r_iload_n (pc := 33) dX9_rollNext_33 rfl ?_
    refine r_Vi (pc := 34) (μ' := mX1_kindOf) dX9_rollNext_34 nX9_62 iX1_kindOf vX1_kindOf kX1_kindOf rfl rfl (rr (by decide) rfl) rfl ⟨Nat.zero_le _, Nat.zero_le _⟩ (fun g' q => ct_Crew_kindOf (StAt.W (hn _ q.2)) q) ?_
    rw [hs_k hi hok.1]
    refine r_aload_n (pc := 37) dX9_rollNext_37 rfl ?_
    refine r_getf (pc := 38) (k := 1) dX9_rollNext_38 hX7 eX7 (by decide) fX9_58 (fun _ q => StAt.o (hn _ q.2)) rfl ?_
    refine r_iload_n (pc := 41) dX9_rollNext_41 rfl ?_
    refine r_Vi (pc := 42) (μ' := mX1_numberOf) dX9_rollNext_42 nX9_68 iX1_numberOf vX1_numberOf kX1_numberOf rfl rfl (rr (by decide) rfl) rfl ⟨Nat.zero_le _, Nat.zero_le _⟩ (fun g' q => ct_Crew_numberOf (StAt.W (hn _ q.2)) q) ?_
    rw [hs_m hi hok.1]
    refine r_iload (pc := 45) dX9_rollNext_45 rfl ?_
    refine r_iconst (pc := 47) (v := 0) dX9_rollNext_47 (by decide) ?_
    rw [show (0 : Int32) = b2i false from rfl]
    refine r_Vv (pc := 48) (μ' := mX0_paint) dX9_rollNext_48 nX9_71 iX0_paint vX0_paint kX0_paint rfl rfl (rr (by decide) rfl) rfl ⟨Nat.zero_le _, Nat.zero_le _⟩ (fun g' q => ct_Ceil_paint q.1.2.1 ok (hok.at hi).1 (hok.at hi).2 hlt (fun g2 a b => hP g2 (q.1.setC a b) (q.2.tr (b.wide (by omega) (by omega))))) ?_
    refine r_return (pc := 51) dX9_rollNext_51 rfl ⟨Nat.zero_le _, Nat.zero_le _⟩ (fun gE hg => ?_)
    exact ⟨rfl, hg⟩
/-- STRIPS 0, 1, .. are ROLLED, so many of them -/
def rollsN (kd m : Nat) (K : CK) : Nat → CK
  | 0 => K
  | n + 1 => paintK kd m n false (rollsN kd m K n)
theorem rollsN_ok {kd m : Nat} {K : CK} (h : KOk K) : ∀ n, KOk (rollsN kd m K n) ∧ kRo (rollsN kd m K n) = kRo K ∧ kSt (rollsN kd m K n) = kSt K ∧ kHe (rollsN kd m K n) = kHe K
  | 0 => ⟨h, rfl, rfl, rfl⟩
  | n + 1 => by
    obtain ⟨a, b, c, d⟩ := rollsN_ok (kd := kd) (m := m) h n
    obtain ⟨a2, b2, c2, d2, -⟩ := paintN_ok (kd := kd) (m := m) (s := n) (up := false) a (rollsN kd m K n).1
    exact ⟨a2, b2.trans b, c2.trans c, d2.trans d⟩
set_option maxHeartbeats 4000000 in
theorem ct_Th_rollAll {i : Nat} (hT : ThAny θ ε g) (hN : StK s K hs lD lL tp wa z g) (hd : θ + 18 ≤ s ∨ s + 25 ≤ θ) (ok : KOk K) (hok : HOk hs) (hi : i < hs.length) (hP : ∀ g' be sp pl bs sb sw sx, ThK θ ε be (rollsN (hKd hs i) (hMn hs i) (noCan K) (kSt K)) sp pl bs sb sw sx g' → Off θ 18 g g' → P' g') : CV 5 0 0 mX9_rollAll θ [.ref s, .int (nI i)] g (fun v g' => v = none ∧ P' g') := by
  have hV : ∃ (fs : List Value) (T : u_T) (N : Nat), θ < g.1 ∧ g.2 θ = .inr (.inr (8, fs)) ∧ vwCl[8]? = some (RX9, T, N) := by
    obtain ⟨be, K0, sp0, pl0, bs0, sb0, sw0, sx0, a⟩ := hT
    exact a.V
  refine ⟨hV, ?_⟩
  refine ct_of (by decide) (fun _ _ => Nat.le_of_ble_eq_true rfl) ?_
  dsimp only [pad, ent]
  have hst : 1 ≤ kSt K ∧ kSt K ≤ 6 := ok.2.1
  have hTs := nI_T (n := kSt K) (by omega)
  have hn : ∀ g', Off θ 18 g g' → StK s K hs lD lL tp wa z g' := fun g' o => StAt.same hN (o.same (by omega))
  have L : ∀ (be : Int32) (sp pl bs sb sw sx : List Int32) (k : Nat), k ≤ kSt K → AW (fun _ => True) (rmd 5 0 0) mX9_rollAll 0 0 7 [some (.ref θ), some (.ref s), some (.int (nI i)), some (.int (nI k))] [] (fun g' => ThK θ ε be (rollsN (hKd hs i) (hMn hs i) (noCan K) k) sp pl bs sb sw sx g' ∧ Off θ 18 g g') (fun v g' => v = none ∧ P' g') := by
    intro be sp pl bs sb sw sx
    refine up_loop ?_ ?_
    · have hr := (rollsN_ok (kd := hKd hs i) (m := hMn hs i) (noCan_ok ok) (kSt K)).2.2.1
      refine r_iload_n (pc := 7) dX9_rollAll_7 rfl ?_
      refine r_aload_n (pc := 8) dX9_rollAll_8 rfl ?_
      refine r_getf (pc := 9) (k := 1) dX9_rollAll_9 hX9 eX9 (by decide) fX9_10 (fun _ q => q.1.o) rfl ?_
      refine r_Vi (pc := 12) (μ' := mX0_strips) dX9_rollAll_12 nX9_55 iX0_strips vX0_strips kX0_strips rfl rfl (rr (by decide) rfl) rfl ⟨Nat.zero_le _, Nat.zero_le _⟩ (fun g' q => ct_Ceil_strips (q.1.2.1 : CeilI _ _ _ _ _ _ _ _ _ _ _ _) q) ?_
      rw [show nI (rollsN (hKd hs i) (hMn hs i) (noCan K) (kSt K)).2.1 = nI (kSt K) from congrArg nI hr]
      refine r_icmp_ge (pc := 15) 31 dX9_rollAll_15 (by decide) (fun c15 => ?_) (fun c15 => ?_)
      · skip
        refine r_return (pc := 31) dX9_rollAll_31 rfl ⟨Nat.zero_le _, Nat.zero_le _⟩ (fun gE hg => ?_)
        exact ⟨rfl, hP _ _ _ _ _ _ _ _ hg.1 hg.2⟩
      · skip
        exact absurd (fa_le.mpr (Int.le_refl _)) c15
    · intro k hk ih
      have hTk := nI_T (n := k) (by omega)
      obtain ⟨ok2, -, hr, -⟩ := rollsN_ok (kd := hKd hs i) (m := hMn hs i) (noCan_ok ok) k
      have hr2 : kSt (rollsN (hKd hs i) (hMn hs i) (noCan K) k) = kSt K := hr
      refine r_iload_n (pc := 7) dX9_rollAll_7 rfl ?_
      refine r_aload_n (pc := 8) dX9_rollAll_8 rfl ?_
      refine r_getf (pc := 9) (k := 1) dX9_rollAll_9 hX9 eX9 (by decide) fX9_10 (fun _ q => q.1.o) rfl ?_
      refine r_Vi (pc := 12) (μ' := mX0_strips) dX9_rollAll_12 nX9_55 iX0_strips vX0_strips kX0_strips rfl rfl (rr (by decide) rfl) rfl ⟨Nat.zero_le _, Nat.zero_le _⟩ (fun g' q => ct_Ceil_strips (q.1.2.1 : CeilI _ _ _ _ _ _ _ _ _ _ _ _) q) ?_
      rw [show nI (rollsN (hKd hs i) (hMn hs i) (noCan K) k).2.1 = nI (kSt K) from congrArg nI hr]
      refine r_icmp_ge (pc := 15) 31 dX9_rollAll_15 (by decide) (fun c15 => ?_) (fun c15 => ?_)
      · skip
        exact absurd c15 (fun q => by have := fa_le.mp q; omega)
      · skip
        refine r_aload_n (pc := 18) dX9_rollAll_18 rfl ?_
        refine r_aload_n (pc := 19) dX9_rollAll_19 rfl ?_
        refine r_iload_n (pc := 20) dX9_rollAll_20 rfl ?_
        refine r_iload_n (pc := 21) dX9_rollAll_21 rfl ?_
        refine r_Vv (pc := 22) (μ' := mX9_rollNext) dX9_rollAll_22 nX9_79 iX9_rollNext vX9_rollNext kX9_rollNext rfl rfl (rr (by decide) rfl) rfl ⟨Nat.zero_le _, Nat.zero_le _⟩ (fun g' q => ct_Th_rollNext (P' := fun g2 => ThK θ ε be (rollsN (hKd hs i) (hMn hs i) (noCan K) (k + 1)) sp pl bs sb sw sx g2 ∧ Off θ 18 g g2) q.1 (hn g' q.2) hd ok2 hok hi (by omega) (fun g2 a b => ⟨by rw [hr2, Nat.mod_eq_of_lt hk] at a; exact a, q.2.tr b⟩)) ?_
        refine r_iinc1 (pc := 25) dX9_rollAll_25 rfl (Nat.le_of_ble_eq_true rfl) rfl ?_
        dsimp only [lset]
        refine r_goto (pc := 28) 7 dX9_rollAll_28 (by decide) ?_
        rw [nI_s]
        exact ih
  refine aw_P (P' := fun g' => ThAny θ ε g' ∧ Off θ 18 g g') (fun g' e => by subst e; exact ⟨hT, Off.rf _ _ _⟩) ?_
  refine r_aload_n (pc := 0) dX9_rollAll_0 rfl ?_
  refine r_aload_n (pc := 1) dX9_rollAll_1 rfl ?_
  refine r_Vv (pc := 2) (μ' := mX9_begin) dX9_rollAll_2 nX9_75 iX9_begin vX9_begin kX9_begin rfl rfl (rr (by decide) rfl) rfl ⟨Nat.zero_le _, Nat.zero_le _⟩ (fun g' q => ct_Th_begin (P' := fun g2 => ∃ be sp pl bs sb sw sx, ThK θ ε be (noCan K) sp pl bs sb sw sx g2 ∧ Off θ 18 g g2) q.1 (hn g' q.2) hd (fun g2 be sp0 pl0 bs0 sb0 sw0 sx0 a b => ⟨be, sp0, pl0, bs0, sb0, sw0, sx0, a, q.2.tr b⟩)) ?_
  refine r_iconst (pc := 5) (v := 0) dX9_rollAll_5 (by decide) ?_
  refine r_istore_n (pc := 6) dX9_rollAll_6 rfl (Nat.le_of_ble_eq_true rfl) rfl ?_
  dsimp only [lset]
  refine aw_ex fun be => ?_
  refine aw_ex fun sp => ?_
  refine aw_ex fun pl => ?_
  refine aw_ex fun bs => ?_
  refine aw_ex fun sb => ?_
  refine aw_ex fun sw => ?_
  refine aw_ex fun sx => ?_
  exact L be sp pl bs sb sw sx 0 (Nat.zero_le _)
set_option maxHeartbeats 4000000 in
theorem ct_Th_cansBegun (hT : ThK θ ε be K sp pl bs sb sw sx g) (hP : P' g) : CV 2 0 0 mX9_cansBegun θ [] g (fun v g' => v = some (.int (nI K.2.2.2.2.2.2.2.1)) ∧ P' g') := by
  refine ⟨hT.V, ?_⟩
  refine ct_of (by decide) (fun _ _ => Nat.le_of_ble_eq_true rfl) ?_
  dsimp only [pad, ent]
  refine aw_P (P' := fun g' => ThK θ ε be K sp pl bs sb sw sx g' ∧ g' = g) (fun g' e => by subst e; exact ⟨hT, rfl⟩) ?_
  refine r_aload_n (pc := 0) dX9_cansBegun_0 rfl ?_
  refine r_getf (pc := 1) (k := 1) dX9_cansBegun_1 hX9 eX9 (by decide) fX9_10 (fun _ q => q.1.o) rfl ?_
  refine r_Vi (pc := 4) (μ' := mX0_cansBegun) dX9_cansBegun_4 nX9_83 iX0_cansBegun vX0_cansBegun kX0_cansBegun rfl rfl (rr (by decide) rfl) rfl ⟨Nat.zero_le _, Nat.zero_le _⟩ (fun g' q => ct_Ceil_cansBegun (q.1.2.1 : CeilI _ _ _ _ _ _ _ _ _ _ _ _) q) ?_
  refine r_ireturn (pc := 7) (ty := .int) dX9_cansBegun_7 rfl rfl ⟨Nat.zero_le _, Nat.zero_le _⟩ (fun gE hg => ?_)
  exact ⟨rfl, by rw [hg.2]; exact hP⟩
def setHe (K : CK) (he : Nat) : CK := match K with
  | (ro, st, mi, _, le, wh, si, ca, w, v) => (ro, st, mi, he, le, wh, si, ca, w, v)
set_option maxHeartbeats 4000000 in
theorem ct_Th_warmTo {x : Nat} (hT : ThK θ ε be K sp pl bs sb sw sx g) (hP : ∀ g', ThK θ ε be (setHe K x) sp pl bs sb sw sx g' → Off θ 18 g g' → P' g') : CV 2 0 0 mX9_warmTo θ [.int (nI x)] g (fun v g' => v = none ∧ P' g') := by
  refine ⟨hT.V, ?_⟩
  refine ct_of (by decide) (fun _ _ => Nat.le_of_ble_eq_true rfl) ?_
  dsimp only [pad, ent]
  refine aw_P (P' := fun g' => ThK θ ε be K sp pl bs sb sw sx g' ∧ g' = g) (fun g' e => by subst e; exact ⟨hT, rfl⟩) ?_
  refine r_aload_n (pc := 0) dX9_warmTo_0 rfl ?_
  refine r_getf (pc := 1) (k := 1) dX9_warmTo_1 hX9 eX9 (by decide) fX9_10 (fun _ q => q.1.o) rfl ?_
  refine r_iload_n (pc := 4) dX9_warmTo_4 rfl ?_
  refine r_Vv (pc := 5) (μ' := mX0_warmTo) dX9_warmTo_5 nX9_86 iX0_warmTo vX0_warmTo kX0_warmTo rfl rfl (rr (by decide) rfl) rfl ⟨Nat.zero_le _, Nat.zero_le _⟩ (fun g' q => ct_Ceil_warmTo (q.1.2.1 : CeilI _ _ _ _ _ _ _ _ _ _ _ _) (fun g2 a b => by
        have o : Off θ 18 g g2 := by rw [← q.2]; exact b.wide (by omega) (by omega)
        exact hP g2 (q.1.setC (K2 := setHe K x) a b) o)) ?_
  refine r_return (pc := 8) dX9_warmTo_8 rfl ⟨Nat.zero_le _, Nat.zero_le _⟩ (fun gE hg => ?_)
  exact ⟨rfl, hg⟩
set_option maxHeartbeats 4000000 in
theorem ct_Th_best (hT : ThK θ ε be K sp pl bs sb sw sx g) (hP : P' g) : CV 1 0 0 mX9_best θ [] g (fun v g' => v = some (.int be) ∧ P' g') := by
  refine ⟨hT.V, ?_⟩
  refine ct_of (by decide) (fun _ _ => Nat.le_of_ble_eq_true rfl) ?_
  dsimp only [pad, ent]
  refine aw_P (P' := fun g' => ThK θ ε be K sp pl bs sb sw sx g' ∧ g' = g) (fun g' e => by subst e; exact ⟨hT, rfl⟩) ?_
  refine r_aload_n (pc := 0) dX9_best_0 rfl ?_
  refine r_getf (pc := 1) (k := 8) dX9_best_1 hX9 eX9 (by decide) fX9_40 (fun _ q => q.1.o) rfl ?_
  refine r_ireturn (pc := 4) (ty := .int) dX9_best_4 rfl rfl ⟨Nat.zero_le _, Nat.zero_le _⟩ (fun gE hg => ?_)
  exact ⟨rfl, by rw [hg.2]; exact hP⟩
set_option maxHeartbeats 4000000 in
theorem ct_Th_bestStripAt {i : Int32} (hT : ThK θ ε be K sp pl bs sb sw sx g) (hP : P' g) : CV 2 0 0 mX9_bestStripAt θ [.int i] g (fun v g' => v = some (.int (atL bs i)) ∧ P' g') := by
  refine ⟨hT.V, ?_⟩
  refine ct_of (by decide) (fun _ _ => Nat.le_of_ble_eq_true rfl) ?_
  dsimp only [pad, ent]
  refine aw_P (P' := fun g' => ThK θ ε be K sp pl bs sb sw sx g' ∧ g' = g) (fun g' e => by subst e; exact ⟨hT, rfl⟩) ?_
  refine r_aload_n (pc := 0) dX9_bestStripAt_0 rfl ?_
  refine r_getf (pc := 1) (k := 4) dX9_bestStripAt_1 hX9 eX9 (by decide) fX9_28 (fun _ q => q.1.o) rfl ?_
  refine r_iload_n (pc := 4) dX9_bestStripAt_4 rfl ?_
  refine r_Vi (pc := 5) (μ' := mX5_at) dX9_bestStripAt_5 nX9_96 iX5_at vX5_at kX5_at rfl rfl (rr (by decide) rfl) rfl ⟨Nat.zero_le _, Nat.zero_le _⟩ (fun g' q => ct_Row_at q.1.2.2.2.2.1 q) ?_
  refine r_ireturn (pc := 8) (ty := .int) dX9_bestStripAt_8 rfl rfl ⟨Nat.zero_le _, Nat.zero_le _⟩ (fun gE hg => ?_)
  exact ⟨rfl, by rw [hg.2]; exact hP⟩
-- ===== the thought and the eye =====
def TE (θ ε td : Nat) (lD lL : List Int32) (be : Int32) (K : CK) (sp pl bs sb sw sx : List Int32) (g : AH) : Prop := ThK θ ε be K sp pl bs sb sw sx g ∧ EyeW ε td lD lL g ∧ (θ + 18 ≤ ε ∨ ε + 5 ≤ θ) ∧ (θ + 18 ≤ td ∨ td + 10 ≤ θ)
def thS (ε td θ : Nat) : Nat → Prop := fun j => eyS ε td j ∨ (θ ≤ j ∧ j < θ + 18)
theorem TE.ec (q : TE θ ε td lD lL be K sp pl bs sb sw sx g) : EC ε td (θ + 1) lD lL K g := ⟨q.2.1, q.1.2.1, by have := q.2.2; omega, by have := q.2.2; omega⟩
theorem TE.on (q : TE θ ε td lD lL be K sp pl bs sb sw sx h) (e : EC ε td (θ + 1) lD lL K g) (o : OffS (eyS ε td) h g) : TE θ ε td lD lL be K sp pl bs sb sw sx g :=
  ⟨q.1.same (o.same (fun j h1 h2 q3 => by have := q.2.2; unfold eyS at q3; omega)), e.1, q.2.2⟩
theorem TE.in (q : TE θ ε td lD lL be K sp pl bs sb sw sx h) (t : ThK θ ε be2 K2 sp2 pl2 bs2 sb2 sw2 sx2 g) (o : Off θ 18 h g) : TE θ ε td lD lL be2 K2 sp2 pl2 bs2 sb2 sw2 sx2 g :=
  ⟨t, q.2.1.off o (by have := q.2.2; omega) (by have := q.2.2; omega), q.2.2⟩
theorem eS (o : OffS (eyS ε td) h g) : OffS (thS ε td θ) h g := o.wide (fun j q => Or.inl q)
theorem tS (o : Off θ 18 h g) : OffS (thS ε td θ) h g := o.S (fun j h1 h2 => Or.inr ⟨h1, h2⟩)
set_option maxHeartbeats 4000000 in
theorem ct_Th_wouldBe (hT : ThK θ ε be K sp pl bs sb sw sx g) (hP : P' g) : CV 1 0 0 mX9_wouldBe θ [] g (fun v g' => v = some (.ref (θ + 1)) ∧ P' g') := by
  refine ⟨hT.V, ?_⟩
  refine ct_of (by decide) (fun _ _ => Nat.le_of_ble_eq_true rfl) ?_
  dsimp only [pad, ent]
  refine aw_P (P' := fun g' => ThK θ ε be K sp pl bs sb sw sx g' ∧ g' = g) (fun g' e => by subst e; exact ⟨hT, rfl⟩) ?_
  refine r_aload_n (pc := 0) dX9_wouldBe_0 rfl ?_
  refine r_getf (pc := 1) (k := 1) dX9_wouldBe_1 hX9 eX9 (by decide) fX9_10 (fun _ q => q.1.o) rfl ?_
  refine r_areturn (pc := 4) dX9_wouldBe_4 rfl ⟨Nat.zero_le _, Nat.zero_le _⟩ (fun gE hg => ?_)
  exact ⟨rfl, by rw [hg.2]; exact hP⟩
end Tho
