/-! THE WHOLE (OneGoCeiling): what lies where -/
abbrev NS : Type := CK × List (Nat × Nat) × List Int32 × List Int32 × List Int32 × List Int32 × Int32
def GObj (o : Nat) (im : Int32) (g : AH) : Prop := o < g.1 ∧ g.2 o = .inr (.inr (10, [.ref (o + 1), .ref (o + 26), .ref (o + 51), .ref (o + 54), .ref (o + 59), .ref (o + 77), .ref (o + 80), .ref (o + 93), .int im]))
def shR (o : Nat) : Nat → Option Nat := fun i => some (o + 81 + 3 * i)
def GArr (o : Nat) (g : AH) : Prop := o + 80 < g.1 ∧ ∃ f : Nat → Option Nat, g.2 (o + 80) = .inr (.inl (4, f)) ∧ ∀ i, i < 4 → f i = some (o + 81 + 3 * i)
def VoX (ν : Nat) (hd : List Int32) (g : AH) : Prop := ∃ num kd m, VoAt ν num kd m hd g
def ShX (o : Nat) (bt : Nat → Int32) (sh : Nat → List Int32) (g : AH) : Prop := ∀ i, i < 4 → SheetAt (o + 81 + 3 * i) (bt i) (sh i) g
/-- the whole at o -/
def GA (o : Nat) (K : CK) (hs : List (Nat × Nat)) (lD lL tp wa : List Int32) (z : Int32) (k : NS) (bt : Nat → Int32) (sh : Nat → List Int32) (hd er : List Int32) (im : Int32) (g : AH) : Prop :=
  GObj o im g ∧ GArr o g ∧ StK (o + 1) K hs lD lL tp wa z g ∧ StK (o + 26) k.1 k.2.1 k.2.2.1 k.2.2.2.1 k.2.2.2.2.1 k.2.2.2.2.2.1 k.2.2.2.2.2.2 g ∧ RdAny (o + 51) g ∧ EyeW (o + 54) (o + 12) lD lL g ∧ ThAny (o + 59) (o + 54) g ∧ VoX (o + 77) hd g ∧ ShX o bt sh g ∧ RowAt (o + 93) 6 er g
section Whole
variable {o : Nat} {K K9 : CK} {hs hs9 : List (Nat × Nat)} {lD lL tp wa lD9 lL9 tp9 wa9 hd er hd9 er9 : List Int32} {z im z9 im9 : Int32} {k k9 : NS} {bt bt9 : Nat → Int32} {sh sh9 : Nat → List Int32} {h g : AH} {P' : AH → Prop}
theorem GObj.same (q : GObj o im h) (e : Same o 1 h g) : GObj o im g := ⟨by rw [e.1]; exact q.1, by rw [e.2 o (by omega) (by omega)]; exact q.2⟩
theorem GArr.same (q : GArr o h) (e : Same (o + 80) 1 h g) : GArr o g := ⟨by rw [e.1]; exact q.1, by rw [e.2 (o + 80) (by omega) (by omega)]; exact q.2⟩
theorem VoX.same {ν : Nat} (q : VoX ν hd h) (e : Same ν 3 h g) : VoX ν hd g := by
  obtain ⟨a, b, c, d⟩ := q
  exact ⟨a, b, c, d.same e⟩
theorem ShX.same (q : ShX o bt sh h) (e : Same (o + 81) 12 h g) : ShX o bt sh g := fun i hi => (q i hi).same (e.sub (by omega) (by omega))
theorem EyeW.upd {ε td : Nat} (q : EyeW ε td lD lL h) (e : Same ε 5 h g) (a : TextAt td 0 lD g) (b : TextAt (td + 5) 1 lL g) : EyeW ε td lD lL g := by
  obtain ⟨⟨kD, kL, ⟨q1, q2, q3, q4, q5, q6, q7⟩, m1, m2⟩, t1, t2⟩ := q
  exact ⟨⟨kD, kL, ⟨by rw [e.1]; exact q1, by rw [e.2 ε (by omega) (by omega)]; exact q2, q3.same (e.sub (by omega) (by omega)), q4.same (e.sub (by omega) (by omega)), a, b, q7⟩, m1, m2⟩, t1, t2⟩
theorem StK.upd {s : Nat} {g h : AH} (q : StK s K hs lD lL tp wa z h) (e1 : Same s 11 h g) (e2 : Same (s + 21) 4 h g) (a : TextAt (s + 11) 0 lD9 g) (b : TextAt (s + 16) 1 lL9 g) : StK s K hs lD9 lL9 tp wa z g :=
  ⟨q.1.same (e1.sub (by omega) (by omega)), q.2.1.same (e1.sub (by omega) (by omega)), q.2.2.1.same (e1.sub (by omega) (by omega)), a, b, q.2.2.2.2.2.1.same (e2.sub (by omega) (by omega)), q.2.2.2.2.2.2.same (e2.sub (by omega) (by omega))⟩
theorem GA.Obj (q : GA o K hs lD lL tp wa z k bt sh hd er im g) : GObj o im g := q.1
theorem GA.Arr (q : GA o K hs lD lL tp wa z k bt sh hd er im g) : GArr o g := q.2.1
theorem GA.St (q : GA o K hs lD lL tp wa z k bt sh hd er im g) : StK (o + 1) K hs lD lL tp wa z g := q.2.2.1
theorem GA.Ke (q : GA o K hs lD lL tp wa z k bt sh hd er im g) : StK (o + 26) k.1 k.2.1 k.2.2.1 k.2.2.2.1 k.2.2.2.2.1 k.2.2.2.2.2.1 k.2.2.2.2.2.2 g := q.2.2.2.1
theorem GA.Rd (q : GA o K hs lD lL tp wa z k bt sh hd er im g) : RdAny (o + 51) g := q.2.2.2.2.1
theorem GA.Ey (q : GA o K hs lD lL tp wa z k bt sh hd er im g) : EyeW (o + 54) (o + 12) lD lL g := q.2.2.2.2.2.1
theorem GA.Th (q : GA o K hs lD lL tp wa z k bt sh hd er im g) : ThAny (o + 59) (o + 54) g := q.2.2.2.2.2.2.1
theorem GA.Vo (q : GA o K hs lD lL tp wa z k bt sh hd er im g) : VoX (o + 77) hd g := q.2.2.2.2.2.2.2.1
theorem GA.Sh (q : GA o K hs lD lL tp wa z k bt sh hd er im g) : ShX o bt sh g := q.2.2.2.2.2.2.2.2.1
theorem GA.Er (q : GA o K hs lD lL tp wa z k bt sh hd er im g) : RowAt (o + 93) 6 er g := q.2.2.2.2.2.2.2.2.2
theorem GA.oo (q : GA o K hs lD lL tp wa z k bt sh hd er im g) : o < g.1 ∧ g.2 o = .inr (.inr (10, [.ref (o + 1), .ref (o + 26), .ref (o + 51), .ref (o + 54), .ref (o + 59), .ref (o + 77), .ref (o + 80), .ref (o + 93), .int im])) := q.1
theorem GA.V (q : GA o K hs lD lL tp wa z k bt sh hd er im g) : ∃ (fs : List Value) (T : u_T) (N : Nat), o < g.1 ∧ g.2 o = .inr (.inr (10, fs)) ∧ vwCl[10]? = some (RX11, T, N) := ⟨_, _, _, q.1.1, q.1.2, rfl⟩
theorem GA.s (q : GA o K hs lD lL tp wa z k bt sh hd er im g) : o + 1 < g.1 ∧ g.2 (o + 1) = .inr (.inr (6, [.ref (o + 1 + 1), .ref (o + 1 + 6), .ref (o + 1 + 11), .ref (o + 1 + 16), .ref (o + 1 + 21), .ref (o + 1 + 23), .int z])) := StAt.o q.St
theorem GA.Ci (q : GA o K hs lD lL tp wa z k bt sh hd er im g) : CeilK (o + 1 + 1) K g := StAt.Ci q.St
theorem GA.W (q : GA o K hs lD lL tp wa z k bt sh hd er im g) : CrewAt (o + 1 + 6) (hs.map fun q => nI q.1) (hs.map fun q => nI q.2) g := StAt.W q.St
theorem GA.Tp (q : GA o K hs lD lL tp wa z k bt sh hd er im g) : RowAt (o + 1 + 21) 50 tp g := q.St.2.2.2.2.2.1
theorem GA.Wa (q : GA o K hs lD lL tp wa z k bt sh hd er im g) : RowAt (o + 1 + 23) 20 wa g := q.St.2.2.2.2.2.2
theorem GA.setS (q : GA o K hs lD lL tp wa z k bt sh hd er im h) (a : StK (o + 1) K9 hs9 lD lL tp9 wa9 z9 g) (e : Off (o + 1) 25 h g) : GA o K9 hs9 lD lL tp9 wa9 z9 k bt sh hd er im g :=
  ⟨q.Obj.same (e.same (by omega)), q.Arr.same (e.same (by omega)), a, StAt.same q.Ke (e.same (by omega)), q.Rd.same (e.same (by omega)), q.Ey.upd (e.same (by omega)) a.2.2.2.1 a.2.2.2.2.1, q.Th.same (e.same (by omega)), q.Vo.same (e.same (by omega)), q.Sh.same (e.same (by omega)), q.Er.same (e.same (by omega))⟩
theorem GA.setK (q : GA o K hs lD lL tp wa z k bt sh hd er im h) (a : StK (o + 26) k9.1 k9.2.1 k9.2.2.1 k9.2.2.2.1 k9.2.2.2.2.1 k9.2.2.2.2.2.1 k9.2.2.2.2.2.2 g) (e : Off (o + 26) 25 h g) : GA o K hs lD lL tp wa z k9 bt sh hd er im g :=
  ⟨q.Obj.same (e.same (by omega)), q.Arr.same (e.same (by omega)), StAt.same q.St (e.same (by omega)), a, q.Rd.same (e.same (by omega)), q.Ey.off e (by omega) (by omega), q.Th.same (e.same (by omega)), q.Vo.same (e.same (by omega)), q.Sh.same (e.same (by omega)), q.Er.same (e.same (by omega))⟩
theorem GA.setRd (q : GA o K hs lD lL tp wa z k bt sh hd er im h) (a : RdAny (o + 51) g) (e : Off (o + 51) 3 h g) : GA o K hs lD lL tp wa z k bt sh hd er im g :=
  ⟨q.Obj.same (e.same (by omega)), q.Arr.same (e.same (by omega)), StAt.same q.St (e.same (by omega)), StAt.same q.Ke (e.same (by omega)), a, q.Ey.off e (by omega) (by omega), q.Th.same (e.same (by omega)), q.Vo.same (e.same (by omega)), q.Sh.same (e.same (by omega)), q.Er.same (e.same (by omega))⟩
theorem GA.setTh (q : GA o K hs lD lL tp wa z k bt sh hd er im h) (a : ThAny (o + 59) (o + 54) g) (e : Off (o + 59) 18 h g) : GA o K hs lD lL tp wa z k bt sh hd er im g :=
  ⟨q.Obj.same (e.same (by omega)), q.Arr.same (e.same (by omega)), StAt.same q.St (e.same (by omega)), StAt.same q.Ke (e.same (by omega)), q.Rd.same (e.same (by omega)), q.Ey.off e (by omega) (by omega), a, q.Vo.same (e.same (by omega)), q.Sh.same (e.same (by omega)), q.Er.same (e.same (by omega))⟩
theorem GA.setVo (q : GA o K hs lD lL tp wa z k bt sh hd er im h) (a : VoX (o + 77) hd9 g) (e : Off (o + 77) 3 h g) : GA o K hs lD lL tp wa z k bt sh hd9 er im g :=
  ⟨q.Obj.same (e.same (by omega)), q.Arr.same (e.same (by omega)), StAt.same q.St (e.same (by omega)), StAt.same q.Ke (e.same (by omega)), q.Rd.same (e.same (by omega)), q.Ey.off e (by omega) (by omega), q.Th.same (e.same (by omega)), a, q.Sh.same (e.same (by omega)), q.Er.same (e.same (by omega))⟩
theorem GA.setSh (q : GA o K hs lD lL tp wa z k bt sh hd er im h) (a : ShX o bt9 sh9 g) (e : Off (o + 81) 12 h g) : GA o K hs lD lL tp wa z k bt9 sh9 hd er im g :=
  ⟨q.Obj.same (e.same (by omega)), q.Arr.same (e.same (by omega)), StAt.same q.St (e.same (by omega)), StAt.same q.Ke (e.same (by omega)), q.Rd.same (e.same (by omega)), q.Ey.off e (by omega) (by omega), q.Th.same (e.same (by omega)), q.Vo.same (e.same (by omega)), a, q.Er.same (e.same (by omega))⟩
theorem GA.setEr (q : GA o K hs lD lL tp wa z k bt sh hd er im h) (a : RowAt (o + 93) 6 er9 g) (e : Off (o + 93) 2 h g) : GA o K hs lD lL tp wa z k bt sh hd er9 im g :=
  ⟨q.Obj.same (e.same (by omega)), q.Arr.same (e.same (by omega)), StAt.same q.St (e.same (by omega)), StAt.same q.Ke (e.same (by omega)), q.Rd.same (e.same (by omega)), q.Ey.off e (by omega) (by omega), q.Th.same (e.same (by omega)), q.Vo.same (e.same (by omega)), q.Sh.same (e.same (by omega)), a⟩
theorem GA.setC (q : GA o K hs lD lL tp wa z k bt sh hd er im h) (a : CeilK (o + 1 + 1) K9 g) (e : Off (o + 1 + 1) 5 h g) : GA o K9 hs lD lL tp wa z k bt sh hd er im g := q.setS (StAt.setC q.St a e) (e.wide (by omega) (by omega))
theorem GA.setW (q : GA o K hs lD lL tp wa z k bt sh hd er im h) (a : CrewAt (o + 1 + 6) (hs9.map fun q => nI q.1) (hs9.map fun q => nI q.2) g) (e : Off (o + 1 + 6) 5 h g) : GA o K hs9 lD lL tp wa z k bt sh hd er im g := q.setS (StAt.setW q.St a e) (e.wide (by omega) (by omega))
theorem GA.setTp (q : GA o K hs lD lL tp wa z k bt sh hd er im h) (a : RowAt (o + 1 + 21) 50 tp9 g) (e : Off (o + 1 + 21) 2 h g) : GA o K hs lD lL tp9 wa z k bt sh hd er im g := q.setS (StAt.setT q.St a e) (e.wide (by omega) (by omega))
theorem GA.setWa (q : GA o K hs lD lL tp wa z k bt sh hd er im h) (a : RowAt (o + 1 + 23) 20 wa9 g) (e : Off (o + 1 + 23) 2 h g) : GA o K hs lD lL tp wa9 z k bt sh hd er im g := q.setS (StAt.setN q.St a e) (e.wide (by omega) (by omega))
theorem GA.putZ (q : GA o K hs lD lL tp wa z k bt sh hd er im g) : GA o K hs lD lL tp wa z9 k bt sh hd er im (hset g (o + 1) (.inr (.inr (6, [.ref (o + 1 + 1), .ref (o + 1 + 6), .ref (o + 1 + 11), .ref (o + 1 + 16), .ref (o + 1 + 21), .ref (o + 1 + 23), .int z9])))) := q.setS (StAt.putZ q.St) (Off.one.wide (by omega) (by omega))
theorem GA.putI (q : GA o K hs lD lL tp wa z k bt sh hd er im g) : GA o K hs lD lL tp wa z k bt sh hd er im9 (hset g o (.inr (.inr (10, [.ref (o + 1), .ref (o + 26), .ref (o + 51), .ref (o + 54), .ref (o + 59), .ref (o + 77), .ref (o + 80), .ref (o + 93), .int im9])))) := by
  have e : ∀ x : AE, Off o 1 g (hset g o x) := fun x => Off.one
  exact ⟨⟨q.1.1, hset_same _ _ _⟩, q.Arr.same ((e _).same (by omega)), StAt.same q.St ((e _).same (by omega)), StAt.same q.Ke ((e _).same (by omega)), q.Rd.same ((e _).same (by omega)), q.Ey.off (e _) (by omega) (by omega), q.Th.same ((e _).same (by omega)), q.Vo.same ((e _).same (by omega)), q.Sh.same ((e _).same (by omega)), q.Er.same ((e _).same (by omega))⟩
theorem GA.eye (q : GA o K hs lD lL tp wa z k bt sh hd er im h) (a : EyeW (o + 54) (o + 12) lD lL g) (e : OffS (eyS (o + 54) (o + 12)) h g) : GA o K hs lD lL tp wa z k bt sh hd er im g := by
  have s : ∀ lo w, (lo + w ≤ o + 12 ∨ o + 22 ≤ lo) → (lo + w ≤ o + 54 ∨ o + 59 ≤ lo) → Same lo w h g := fun lo w h1 h2 => e.same (fun j h3 h4 h5 => by unfold eyS at h5; omega)
  have a2 : EyeW (o + 54) (o + 12) lD lL g := a
  obtain ⟨⟨kD, kL, ⟨q1, q2, q3, q4, q5, q6, q7⟩, m1, m2⟩, t1, t2⟩ := a
  exact ⟨q.Obj.same (s _ _ (by omega) (by omega)), q.Arr.same (s _ _ (by omega) (by omega)), StK.upd q.St (s _ _ (by omega) (by omega)) (s _ _ (by omega) (by omega)) q5 q6, StAt.same q.Ke (s _ _ (by omega) (by omega)), q.Rd.same (s _ _ (by omega) (by omega)), a2, q.Th.same (s _ _ (by omega) (by omega)), q.Vo.same (s _ _ (by omega) (by omega)), q.Sh.same (s _ _ (by omega) (by omega)), q.Er.same (s _ _ (by omega) (by omega))⟩
theorem GA.TE {be : Int32} {K9 : CK} {sp pl bs sb sw sx : List Int32} (q : GA o K hs lD lL tp wa z k bt sh hd er im g) (t : ThK (o + 59) (o + 54) be K9 sp pl bs sb sw sx g) : TE (o + 59) (o + 54) (o + 12) lD lL be K9 sp pl bs sb sw sx g := ⟨t, q.Ey, by omega, by omega⟩
/-- an error is told -/
def errL (er : List Int32) (e : Int32) : List Int32 := wrL er e (atL er e + 1)
set_option maxHeartbeats 4000000 in
theorem ct_G_error {e : Int32} (q : GA o K hs lD lL tp wa z k bt sh hd er im g) (hP : ∀ g', GA o K hs lD lL tp wa z k bt sh hd (errL er e) im g' → Off o 95 g g' → P' g') : CV 2 0 0 mX11_error o [.int e] g (fun v g' => v = some (.int (-1000000000 - e)) ∧ P' g') := by
  refine ⟨q.V, ?_⟩
  refine ct_of (by decide) (fun _ _ => Nat.le_of_ble_eq_true rfl) ?_
  dsimp only [pad, ent]
  refine aw_P (P' := fun g' => GA o K hs lD lL tp wa z k bt sh hd er im g' ∧ Off o 95 g g') (fun g' e => by subst e; exact ⟨q, Off.rf _ _ _⟩) ?_
  refine r_aload_n (pc := 0) dX11_error_0 rfl ?_
  refine r_getf (pc := 1) (k := 7) dX11_error_1 hX11 eX11 (by decide) fX11_70 (fun _ q => q.1.oo) rfl ?_
  refine r_iload_n (pc := 4) dX11_error_4 rfl ?_
  refine r_aload_n (pc := 5) dX11_error_5 rfl ?_
  refine r_getf (pc := 6) (k := 7) dX11_error_6 hX11 eX11 (by decide) fX11_70 (fun _ q => q.1.oo) rfl ?_
  refine r_iload_n (pc := 9) dX11_error_9 rfl ?_
  refine r_Vi (pc := 10) (μ' := mX5_at) dX11_error_10 nX11_322 iX5_at vX5_at kX5_at rfl rfl (rr (by decide) rfl) rfl ⟨Nat.zero_le _, Nat.zero_le _⟩ (fun g' q => ct_Row_at q.1.Er q) ?_
  refine r_iconst (pc := 13) (v := 1) dX11_error_13 (by decide) ?_
  refine r_iadd (pc := 14) dX11_error_14 ?_
  refine r_Vv (pc := 15) (μ' := mX5_write) dX11_error_15 nX11_387 iX5_write vX5_write kX5_write rfl rfl (rr (by decide) rfl) rfl ⟨Nat.zero_le _, Nat.zero_le _⟩ (fun g' q => ct_Row_write q.1.Er (fun g2 a b => hP g2 (q.1.setEr a b) (q.2.tr (b.wide (by omega) (by omega))))) ?_
  refine r_ldcw (pc := 18) (v := (-1000000000)) dX11_error_18 qX11_388 ?_
  refine r_iload_n (pc := 21) dX11_error_21 rfl ?_
  refine r_isub (pc := 22) dX11_error_22 ?_
  refine r_ireturn (pc := 23) (ty := .int) dX11_error_23 rfl rfl ⟨Nat.zero_le _, Nat.zero_le _⟩ (fun gE hg => ?_)
  exact ⟨rfl, hg⟩
def wiB (v a b : Int32) : Bool := decide (a.toInt ≤ v.toInt ∧ v.toInt ≤ b.toInt)
set_option maxHeartbeats 4000000 in
theorem ct_G_within {v a b : Int32} (g : AH) : CT 1 0 0 mX11_within [.int v, .int a, .int b] g (fun w g' => w = some (.int (b2i (wiB v a b))) ∧ g' = g) := by
  refine ct_of (by decide) (fun _ _ => Nat.le_of_ble_eq_true rfl) ?_
  dsimp only [pad, ent]
  unfold wiB
  refine r_iload_n (pc := 0) dX11_within_0 rfl ?_
  refine r_iload_n (pc := 1) dX11_within_1 rfl ?_
  refine r_icmp_lt (pc := 2) 14 dX11_within_2 (by decide) (fun c2 => ?_) (fun c2 => ?_)
  · skip
    have k2 := fa_lt.mp c2
    refine r_iconst (pc := 14) (v := 0) dX11_within_14 (by decide) ?_
    refine r_ireturn (pc := 15) (ty := .boolean) dX11_within_15 rfl rfl ⟨Nat.zero_le _, Nat.zero_le _⟩ (fun gE hg => ?_)
    first
    | exact ⟨by rw [decide_eq_true (by omega)]; rfl, hg⟩
    | exact ⟨by rw [decide_eq_false (by omega)]; rfl, hg⟩
  · skip
    have k2 : ¬ v.toInt < a.toInt := fun q => c2 (fa_lt.mpr q)
    refine r_iload_n (pc := 5) dX11_within_5 rfl ?_
    refine r_iload_n (pc := 6) dX11_within_6 rfl ?_
    refine r_icmp_gt (pc := 7) 14 dX11_within_7 (by decide) (fun c7 => ?_) (fun c7 => ?_)
    · skip
      have k7 := fa_lt.mp c7
      refine r_iconst (pc := 14) (v := 0) dX11_within_14 (by decide) ?_
      refine r_ireturn (pc := 15) (ty := .boolean) dX11_within_15 rfl rfl ⟨Nat.zero_le _, Nat.zero_le _⟩ (fun gE hg => ?_)
      first
      | exact ⟨by rw [decide_eq_true (by omega)]; rfl, hg⟩
      | exact ⟨by rw [decide_eq_false (by omega)]; rfl, hg⟩
    · skip
      have k7 : ¬ b.toInt < v.toInt := fun q => c7 (fa_lt.mpr q)
      refine r_iconst (pc := 10) (v := 1) dX11_within_10 (by decide) ?_
      refine r_goto (pc := 11) 15 dX11_within_11 (by decide) ?_
      refine r_ireturn (pc := 15) (ty := .boolean) dX11_within_15 rfl rfl ⟨Nat.zero_le _, Nat.zero_le _⟩ (fun gE hg => ?_)
      first
      | exact ⟨by rw [decide_eq_true (by omega)]; rfl, hg⟩
      | exact ⟨by rw [decide_eq_false (by omega)]; rfl, hg⟩
def laB (K : CK) (s : Int32) : Bool := decide (0 < s.toInt ∧ s.toInt < kSt K)
set_option maxHeartbeats 4000000 in
theorem ct_G_isLaterStrip {s : Int32} (q : GA o K hs lD lL tp wa z k bt sh hd er im g) (ok : KOk K) (hP : P' g) : CV 2 0 0 mX11_isLaterStrip o [.int s] g (fun v g' => v = some (.int (b2i (laB K s))) ∧ P' g') := by
  refine ⟨q.V, ?_⟩
  refine ct_of (by decide) (fun _ _ => Nat.le_of_ble_eq_true rfl) ?_
  dsimp only [pad, ent]
  have hst : 1 ≤ kSt K ∧ kSt K ≤ 6 := ok.2.1
  have hTst := nI_T (n := kSt K) (by omega)
  have hTs : (nI K.2.1).toInt = (kSt K : Int) := hTst
  unfold laB
  refine aw_P (P' := fun g' => GA o K hs lD lL tp wa z k bt sh hd er im g' ∧ g' = g) (fun g' e => by subst e; exact ⟨q, rfl⟩) ?_
  refine r_iload_n (pc := 0) dX11_isLaterStrip_0 rfl ?_
  refine r_if_eq (pc := 1) 22 dX11_isLaterStrip_1 (by decide) (fun c1 => ?_) (fun c1 => ?_)
  · skip
    have k1 : s.toInt = 0 := by rw [c1]; rfl
    refine r_iconst (pc := 22) (v := 0) dX11_isLaterStrip_22 (by decide) ?_
    refine r_ireturn (pc := 23) (ty := .boolean) dX11_isLaterStrip_23 rfl rfl ⟨Nat.zero_le _, Nat.zero_le _⟩ (fun gE hg => ?_)
    refine ⟨?_, by rw [hg.2]; exact hP⟩
    first
    | rw [decide_eq_true (by omega)]; rfl
    | rw [decide_eq_false (by omega)]; rfl
  · skip
    have k1 : ¬ s.toInt = 0 := fun x => c1 (fa_eq.mpr x)
    refine r_aload_n (pc := 4) dX11_isLaterStrip_4 rfl ?_
    refine r_getf (pc := 5) (k := 0) dX11_isLaterStrip_5 hX11 eX11 (by decide) fX11_10 (fun _ q => q.1.oo) rfl ?_
    refine r_getf (pc := 8) (k := 0) dX11_isLaterStrip_8 hX7 eX7 (by decide) fX11_92 (fun _ q => q.1.s) rfl ?_
    refine r_iload_n (pc := 11) dX11_isLaterStrip_11 rfl ?_
    refine r_Vi (pc := 12) (μ' := mX0_isStrip) dX11_isLaterStrip_12 nX11_210 iX0_isStrip vX0_isStrip kX0_isStrip rfl rfl (rr (by decide) rfl) rfl ⟨Nat.zero_le _, Nat.zero_le _⟩ (fun g' q => ct_Ceil_isStrip (q.1.Ci : CeilI _ _ _ _ _ _ _ _ _ _ _ _) q) ?_
    refine r_if_eq (pc := 15) 22 dX11_isLaterStrip_15 (by decide) (fun c15 => ?_) (fun c15 => ?_)
    · skip
      have k2 := of_decide_eq_false (b2i_0.mp c15)
      refine r_iconst (pc := 22) (v := 0) dX11_isLaterStrip_22 (by decide) ?_
      refine r_ireturn (pc := 23) (ty := .boolean) dX11_isLaterStrip_23 rfl rfl ⟨Nat.zero_le _, Nat.zero_le _⟩ (fun gE hg => ?_)
      refine ⟨?_, by rw [hg.2]; exact hP⟩
      first
      | rw [decide_eq_true (by omega)]; rfl
      | rw [decide_eq_false (by omega)]; rfl
    · skip
      have k2 := of_decide_eq_true (b2i_n0.mp c15)
      refine r_iconst (pc := 18) (v := 1) dX11_isLaterStrip_18 (by decide) ?_
      refine r_goto (pc := 19) 23 dX11_isLaterStrip_19 (by decide) ?_
      refine r_ireturn (pc := 23) (ty := .boolean) dX11_isLaterStrip_23 rfl rfl ⟨Nat.zero_le _, Nat.zero_le _⟩ (fun gE hg => ?_)
      refine ⟨?_, by rw [hg.2]; exact hP⟩
      first
      | rw [decide_eq_true (by omega)]; rfl
      | rw [decide_eq_false (by omega)]; rfl
set_option maxHeartbeats 4000000 in
theorem ct_G_textOf {u : Int32} (q : GA o K hs lD lL tp wa z k bt sh hd er im g) (hP : P' g) : CV 1 0 0 mX11_textOf o [.int u] g (fun v g' => v = (if u = 0 then some (.ref (o + 1 + 11)) else if u = 1 then some (.ref (o + 1 + 16)) else some .null) ∧ P' g') := by
  refine ⟨q.V, ?_⟩
  refine ct_of (by decide) (fun _ _ => Nat.le_of_ble_eq_true rfl) ?_
  dsimp only [pad, ent]
  refine aw_P (P' := fun g' => GA o K hs lD lL tp wa z k bt sh hd er im g' ∧ g' = g) (fun g' e => by subst e; exact ⟨q, rfl⟩) ?_
  by_cases c0 : u = 0
  · rw [if_pos c0]
    refine r_iload_n (pc := 0) dX11_textOf_0 rfl ?_
    refine r_if_ne (pc := 1) 12 dX11_textOf_1 (by decide) (fun c1 => ?_) (fun c1 => ?_)
    · skip
      exact absurd c0 c1
    · skip
      refine r_aload_n (pc := 4) dX11_textOf_4 rfl ?_
      refine r_getf (pc := 5) (k := 0) dX11_textOf_5 hX11 eX11 (by decide) fX11_10 (fun _ q => q.1.oo) rfl ?_
      refine r_getf (pc := 8) (k := 2) dX11_textOf_8 hX7 eX7 (by decide) fX11_28 (fun _ q => q.1.s) rfl ?_
      refine r_areturn (pc := 11) dX11_textOf_11 rfl ⟨Nat.zero_le _, Nat.zero_le _⟩ (fun gE hg => ?_)
      exact ⟨rfl, by rw [hg.2]; exact hP⟩
  · rw [if_neg c0]
    by_cases c9 : u = 1
    · rw [if_pos c9]
      refine r_iload_n (pc := 0) dX11_textOf_0 rfl ?_
      refine r_if_ne (pc := 1) 12 dX11_textOf_1 (by decide) (fun c1 => ?_) (fun c1 => ?_)
      · skip
        refine r_iload_n (pc := 12) dX11_textOf_12 rfl ?_
        refine r_iconst (pc := 13) (v := 1) dX11_textOf_13 (by decide) ?_
        refine r_icmp_ne (pc := 14) 27 dX11_textOf_14 (by decide) (fun c14 => ?_) (fun c14 => ?_)
        · skip
          exact absurd c9 c14
        · skip
          refine r_aload_n (pc := 17) dX11_textOf_17 rfl ?_
          refine r_getf (pc := 18) (k := 0) dX11_textOf_18 hX11 eX11 (by decide) fX11_10 (fun _ q => q.1.oo) rfl ?_
          refine r_getf (pc := 21) (k := 3) dX11_textOf_21 hX7 eX7 (by decide) fX11_32 (fun _ q => q.1.s) rfl ?_
          refine r_goto (pc := 24) 28 dX11_textOf_24 (by decide) ?_
          refine r_areturn (pc := 28) dX11_textOf_28 rfl ⟨Nat.zero_le _, Nat.zero_le _⟩ (fun gE hg => ?_)
          exact ⟨rfl, by rw [hg.2]; exact hP⟩
      · skip
        exact absurd c1 c0
    · rw [if_neg c9]
      refine r_iload_n (pc := 0) dX11_textOf_0 rfl ?_
      refine r_if_ne (pc := 1) 12 dX11_textOf_1 (by decide) (fun c1 => ?_) (fun c1 => ?_)
      · skip
        refine r_iload_n (pc := 12) dX11_textOf_12 rfl ?_
        refine r_iconst (pc := 13) (v := 1) dX11_textOf_13 (by decide) ?_
        refine r_icmp_ne (pc := 14) 27 dX11_textOf_14 (by decide) (fun c14 => ?_) (fun c14 => ?_)
        · skip
          refine r_null (pc := 27) dX11_textOf_27 ?_
          refine r_areturnN (pc := 28) dX11_textOf_28 rfl ⟨Nat.zero_le _, Nat.zero_le _⟩ (fun gE hg => ?_)
          exact ⟨rfl, by rw [hg.2]; exact hP⟩
        · skip
          exact absurd c14 c9
      · skip
        exact absurd c1 c0
set_option maxHeartbeats 4000000 in
theorem ct_G_sheetOf {i : Int32} (q : GA o K hs lD lL tp wa z k bt sh hd er im g) (hP : P' g) : CV 1 0 0 mX11_sheetOf o [.int i] g (fun v g' => v = (if 0 ≤ i.toInt ∧ i.toInt < 4 then some (.ref (o + 81 + 3 * i.toInt.toNat)) else some .null) ∧ P' g') := by
  refine ⟨q.V, ?_⟩
  refine ct_of (by decide) (fun _ _ => Nat.le_of_ble_eq_true rfl) ?_
  dsimp only [pad, ent]
  obtain ⟨ha, f, hf, hf4⟩ := q.Arr
  refine aw_P (P' := fun g' => GA o K hs lD lL tp wa z k bt sh hd er im g' ∧ g' = g) (fun g' e => by subst e; exact ⟨q, rfl⟩) ?_
  have hA : ∀ g', GA o K hs lD lL tp wa z k bt sh hd er im g' ∧ g' = g → o + 80 < g'.1 ∧ g'.2 (o + 80) = .inr (.inl (4, f)) := fun g' x => by rw [x.2]; exact ⟨ha, hf⟩
  by_cases c : 0 ≤ i.toInt ∧ i.toInt < 4
  · rw [if_pos c]
    refine r_iload_n (pc := 0) dX11_sheetOf_0 rfl ?_
    refine r_if_lt (pc := 1) 22 dX11_sheetOf_1 (by decide) (fun c1 => ?_) (fun c1 => ?_)
    · skip
      exact absurd (i32_lt0.mp c1) (by omega)
    · skip
      refine r_iload_n (pc := 4) dX11_sheetOf_4 rfl ?_
      refine r_aload_n (pc := 5) dX11_sheetOf_5 rfl ?_
      refine r_getf (pc := 6) (k := 6) dX11_sheetOf_6 hX11 eX11 (by decide) fX11_61 (fun _ q => q.1.oo) rfl ?_
      refine r_alenq (pc := 9) (y := (4, f)) (v := 4) dX11_sheetOf_9 hA rfl ?_
      refine r_icmp_ge (pc := 10) 22 dX11_sheetOf_10 (by decide) (fun c10 => ?_) (fun c10 => ?_)
      · skip
        exact absurd (fa_le.mp c10) (by rw [show (4 : Int32).toInt = 4 from rfl]; omega)
      · skip
        refine r_aload_n (pc := 13) dX11_sheetOf_13 rfl ?_
        refine r_getf (pc := 14) (k := 6) dX11_sheetOf_14 hX11 eX11 (by decide) fX11_61 (fun _ q => q.1.oo) rfl ?_
        refine r_iload_n (pc := 17) dX11_sheetOf_17 rfl ?_
        refine r_aald (pc := 18) (n := 4) (f := f) (j := i.toInt.toNat) dX11_sheetOf_18 hA (ix_hi (fun x => by have := i32_lt0.mp x; omega)) (by omega) (hf4 _ (by omega)) ?_
        refine r_goto (pc := 19) 23 dX11_sheetOf_19 (by decide) ?_
        refine r_areturn (pc := 23) dX11_sheetOf_23 rfl ⟨Nat.zero_le _, Nat.zero_le _⟩ (fun gE hg => ?_)
        exact ⟨rfl, by rw [hg.2]; exact hP⟩
  · rw [if_neg c]
    refine r_iload_n (pc := 0) dX11_sheetOf_0 rfl ?_
    refine r_if_lt (pc := 1) 22 dX11_sheetOf_1 (by decide) (fun c1 => ?_) (fun c1 => ?_)
    · skip
      refine r_null (pc := 22) dX11_sheetOf_22 ?_
      refine r_areturnN (pc := 23) dX11_sheetOf_23 rfl ⟨Nat.zero_le _, Nat.zero_le _⟩ (fun gE hg => ?_)
      exact ⟨rfl, by rw [hg.2]; exact hP⟩
    · skip
      have k1 := ge0 c1
      refine r_iload_n (pc := 4) dX11_sheetOf_4 rfl ?_
      refine r_aload_n (pc := 5) dX11_sheetOf_5 rfl ?_
      refine r_getf (pc := 6) (k := 6) dX11_sheetOf_6 hX11 eX11 (by decide) fX11_61 (fun _ q => q.1.oo) rfl ?_
      refine r_alenq (pc := 9) (y := (4, f)) (v := 4) dX11_sheetOf_9 hA rfl ?_
      refine r_icmp_ge (pc := 10) 22 dX11_sheetOf_10 (by decide) (fun c10 => ?_) (fun c10 => ?_)
      · skip
        refine r_null (pc := 22) dX11_sheetOf_22 ?_
        refine r_areturnN (pc := 23) dX11_sheetOf_23 rfl ⟨Nat.zero_le _, Nat.zero_le _⟩ (fun gE hg => ?_)
        exact ⟨rfl, by rw [hg.2]; exact hP⟩
      · skip
        exact absurd (fa_le.mpr (by rw [show (4 : Int32).toInt = 4 from rfl]; omega)) c10
end Whole
