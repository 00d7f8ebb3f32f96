/-! THE EYE (OneGoCeiling$Eye): seams by the two texts, with what they gave remembered -/
def Same (lo w : Nat) (h g : AH) : Prop := g.1 = h.1 ∧ ∀ j, lo ≤ j → j < lo + w → g.2 j = h.2 j
def OffS (S : Nat → Prop) (h g : AH) : Prop := g.1 = h.1 ∧ ∀ j, ¬ S j → g.2 j = h.2 j
theorem OffS.rf (S : Nat → Prop) (h : AH) : OffS S h h := ⟨rfl, fun _ _ => rfl⟩
theorem OffS.tr {S : Nat → Prop} {h g k : AH} (a : OffS S h g) (b : OffS S g k) : OffS S h k := ⟨b.1.trans a.1, fun j hj => (b.2 j hj).trans (a.2 j hj)⟩
theorem OffS.wide {S S' : Nat → Prop} {h g : AH} (a : OffS S h g) (hs : ∀ j, S j → S' j) : OffS S' h g := ⟨a.1, fun j hj => a.2 j (fun q => hj (hs j q))⟩
theorem Off.S {S : Nat → Prop} {lo w : Nat} {h g : AH} (a : Off lo w h g) (hs : ∀ j, lo ≤ j → j < lo + w → S j) : OffS S h g :=
  ⟨a.1, fun j hj => a.2 j (by
    by_cases e : lo ≤ j ∧ j < lo + w
    · exact absurd (hs j e.1 e.2) hj
    · omega)⟩
theorem OffS.same {S : Nat → Prop} {h g : AH} (a : OffS S h g) {lo w : Nat} (hs : ∀ j, lo ≤ j → j < lo + w → ¬ S j) : Same lo w h g := ⟨a.1, fun j h1 h2 => a.2 j (hs j h1 h2)⟩
theorem Off.same {lo' w' : Nat} {h g : AH} (a : Off lo' w' h g) {lo w : Nat} (hs : lo + w ≤ lo' ∨ lo' + w' ≤ lo) : Same lo w h g := ⟨a.1, fun j h1 h2 => a.2 j (by omega)⟩
theorem Same.sub {lo w lo' w' : Nat} {h g : AH} (a : Same lo w h g) (h1 : lo ≤ lo') (h2 : lo' + w' ≤ lo + w) : Same lo' w' h g := ⟨a.1, fun j h3 h4 => a.2 j (by omega) (by omega)⟩
theorem RowAt.same {r cap : Nat} {l : List Int32} {h g : AH} (q : RowAt r cap l h) (s : Same r 2 h g) : RowAt r cap l g := by
  obtain ⟨q1, q2, q3, f, q4, q5, q6⟩ := q
  exact ⟨by rw [s.1]; exact q1, q2, q3, f, by rw [s.2 r (by omega) (by omega)]; exact q4, by rw [s.2 (r + 1) (by omega) (by omega)]; exact q5, q6⟩
theorem CeilI.same {c : Nat} {ro st mi he le wh si ca : Int32} {wn wt : List Int32} {h g : AH} (q : CeilI c ro st mi he le wh si ca wn wt h) (s : Same c 5 h g) : CeilI c ro st mi he le wh si ca wn wt g :=
  ⟨by rw [s.1]; exact q.1, by rw [s.2 c (by omega) (by omega)]; exact q.2.1, q.2.2.1.same (s.sub (by omega) (by omega)), q.2.2.2.same (s.sub (by omega) (by omega))⟩
theorem CrewAt.same {c : Nat} {ks ms : List Int32} {h g : AH} (q : CrewAt c ks ms h) (s : Same c 5 h g) : CrewAt c ks ms g :=
  ⟨by rw [s.1]; exact q.1, by rw [s.2 c (by omega) (by omega)]; exact q.2.1, q.2.2.1.same (s.sub (by omega) (by omega)), q.2.2.2.same (s.sub (by omega) (by omega))⟩
theorem TextAt.same {t : Nat} {use : Int32} {l : List Int32} {h g : AH} (q : TextAt t use l h) (s : Same t 5 h g) : TextAt t use l g := by
  obtain ⟨q1, q2, q3, sk, q4⟩ := q
  exact ⟨by rw [s.1]; exact q1, by rw [s.2 t (by omega) (by omega)]; exact q2, q3.same (s.sub (by omega) (by omega)), sk, q4.same (s.sub (by omega) (by omega))⟩
theorem SheetAt.same {t : Nat} {bits : Int32} {l : List Int32} {h g : AH} (q : SheetAt t bits l h) (s : Same t 3 h g) : SheetAt t bits l g :=
  ⟨by rw [s.1]; exact q.1, by rw [s.2 t (by omega) (by omega)]; exact q.2.1, q.2.2.same (s.sub (by omega) (by omega))⟩
theorem VoAt.same {ν : Nat} {num kd m : Int32} {hd : List Int32} {h g : AH} (q : VoAt ν num kd m hd h) (s : Same ν 3 h g) : VoAt ν num kd m hd g :=
  ⟨by rw [s.1]; exact q.1, by rw [s.2 ν (by omega) (by omega)]; exact q.2.1, q.2.2.same (s.sub (by omega) (by omega))⟩
theorem RdAny.same {ρ : Nat} {h g : AH} (q : RdAny ρ h) (s : Same ρ 3 h g) : RdAny ρ g := by
  obtain ⟨q1, tv, gv, a, f, l, q2, q3⟩ := q
  exact ⟨by rw [s.1]; exact q1, tv, gv, a, f, l, by rw [s.2 ρ (by omega) (by omega)]; exact q2, q3.same (s.sub (by omega) (by omega))⟩
theorem CeilK.same {c : Nat} {K : CK} {h g : AH} (q : CeilK c K h) (s : Same c 5 h g) : CeilK c K g := CeilI.same q s
-- the ceiling in numbers: what it tells
abbrev kRo (K : CK) : Nat := K.1
abbrev kSt (K : CK) : Nat := K.2.1
abbrev kMi (K : CK) : Nat := K.2.2.1
abbrev kHe (K : CK) : Nat := K.2.2.2.1
abbrev kW (K : CK) : Nat → Nat → Int := K.2.2.2.2.2.2.2.2.1
abbrev kV (K : CK) : Nat → Nat → Nat := K.2.2.2.2.2.2.2.2.2
def wE (K : CK) (r p : Nat) : Int := if p < kSt K then kW K r p else -1
def vE (K : CK) (r p : Nat) : Nat := if p < kSt K then kV K r p else 0
theorem ct_CK_whenAt {c r p : Nat} {K : CK} {g : AH} {P' : AH → Prop} (hK : CeilK c K g) (ok : KOk K) (hr : r < kRo K) (hp : p ≤ 6) (hP : P' g) : CV 2 0 0 mX0_whenAt c [.int (nI r), .int (nI p)] g (fun v g' => v = some (.int (iI (wE K r p))) ∧ P' g') := by
  obtain ⟨ro, st, mi, he, le, wh, si, ca, w, v⟩ := K
  unfold wE
  dsimp only [kRo, kSt, kW, kV] at *
  have h := ct_Ceil_whenAt (r := nI r) (s := nI p) hK hP
  have h1 := ok.1.2
  have h2 := ok.2.1.2
  rw [nI_T (by omega), nI_T (by omega)] at h
  dsimp only at h h1 h2
  by_cases e : p < st
  · rw [if_pos (by omega), pk_mul, nI_add, atL_nI (by have := cell_lt hr e; have := Nat.mul_le_mul h1 h2; omega), tab_at hr e] at h
    rw [if_pos e]; exact h
  · rw [if_neg (by omega)] at h
    rw [if_neg e]; exact h
theorem ct_CK_whiteAt {c r p : Nat} {K : CK} {g : AH} {P' : AH → Prop} (hK : CeilK c K g) (ok : KOk K) (hr : r < kRo K) (hp : p ≤ 6) (hP : P' g) : CV 2 0 0 mX0_whiteAt c [.int (nI r), .int (nI p)] g (fun v g' => v = some (.int (nI (vE K r p))) ∧ P' g') := by
  obtain ⟨ro, st, mi, he, le, wh, si, ca, w, v⟩ := K
  unfold vE
  dsimp only [kRo, kSt, kW, kV] at *
  have h := ct_Ceil_whiteAt (r := nI r) (s := nI p) hK hP
  have h1 := ok.1.2
  have h2 := ok.2.1.2
  rw [nI_T (by omega), nI_T (by omega)] at h
  dsimp only at h h1 h2
  by_cases e : p < st
  · rw [if_pos (by omega), pk_mul, nI_add, atL_nI (by have := cell_lt hr e; have := Nat.mul_le_mul h1 h2; omega), tab_at hr e] at h
    rw [if_pos e]; exact h
  · rw [if_neg (by omega)] at h
    rw [if_neg e]; exact h
-- what a use gives
theorem held_rng (v : Int32) : 0 ≤ (heldI v).toInt ∧ (heldI v).toInt ≤ 99 := by
  unfold heldI
  by_cases h : v < 99
  · rw [if_pos h]
    have := fa_lt.mp h
    rw [show (99 : Int32).toInt = 99 from rfl] at this
    by_cases h2 : (0 : Int32) < v
    · rw [if_pos h2]; have := fa_lt.mp h2; rw [t0] at this; omega
    · rw [if_neg h2, t0]; omega
  · rw [if_neg h, if_pos (by decide), show (99 : Int32).toInt = 99 from rfl]; omega
theorem law_rng (use : Int32) (l : List Int32) (a b c : Int32) : 0 ≤ (lawI use l a b c).toInt ∧ (lawI use l a b c).toInt ≤ 99 := by
  unfold lawI
  split <;> exact held_rng _
def lawN (use : Int32) (l : List Int32) (a b c : Nat) : Nat := (lawI use l (nI a) (nI b) (nI c)).toInt.toNat
theorem lawN_ok (use : Int32) (l : List Int32) (a b c : Nat) : lawI use l (nI a) (nI b) (nI c) = nI (lawN use l a b c) ∧ lawN use l a b c ≤ 99 := by
  have := law_rng use l (nI a) (nI b) (nI c)
  unfold lawN
  refine ⟨Int32.toInt_inj.mp ?_, by omega⟩
  rw [nI_T (by omega)]; omega
def TxOk (l : List Int32) : Prop := l.length = 0 ∨ ∀ a b c, ∃ x, runS a b c l [] = some [x]
def MD (l kD : List Int32) : Prop := kD.length = 360 ∧ ∀ r s h, r < 6 → s < 6 → h < 10 → kD.getD ((r * 6 + s) * 10 + h) 0 = 0 ∨ kD.getD ((r * 6 + s) * 10 + h) 0 = nI (lawN 0 l r s h + 1)
def ML (l kL : List Int32) : Prop := kL.length = 3000 ∧ ∀ r s d, r < 6 → s < 5 → d < 100 → kL.getD ((r * 5 + s) * 100 + d) 0 = 0 ∨ kL.getD ((r * 5 + s) * 100 + d) 0 = nI (lawN 1 l r s d + 1)
def EyeK (ε td : Nat) (lD lL kD kL : List Int32) (g : AH) : Prop := ε < g.1 ∧ g.2 ε = .inr (.inr (2, [.ref td, .ref (td + 5), .ref (ε + 1), .ref (ε + 3)])) ∧ RowAt (ε + 1) 360 kD g ∧ RowAt (ε + 3) 3000 kL g ∧ TextAt td 0 lD g ∧ TextAt (td + 5) 1 lL g ∧ (td + 10 ≤ ε ∨ ε + 5 ≤ td)
def EyeW (ε td : Nat) (lD lL : List Int32) (g : AH) : Prop := (∃ kD kL, EyeK ε td lD lL kD kL g ∧ MD lD kD ∧ ML lL kL) ∧ TxOk lD ∧ TxOk lL
def eyS (ε td : Nat) : Nat → Prop := fun j => (ε ≤ j ∧ j < ε + 5) ∨ (td ≤ j ∧ j < td + 10)
section Ey
variable {ε td : Nat} {lD lL kD kL : List Int32} {g h : AH} {P' : AH → Prop}
theorem EyeK.o (q : EyeK ε td lD lL kD kL g) : ε < g.1 ∧ g.2 ε = .inr (.inr (2, [.ref td, .ref (td + 5), .ref (ε + 1), .ref (ε + 3)])) := ⟨q.1, q.2.1⟩
theorem EyeK.V (q : EyeK ε td lD lL kD kL g) : ∃ (fs : List Value) (T : u_T) (N : Nat), ε < g.1 ∧ g.2 ε = .inr (.inr (2, fs)) ∧ vwCl[2]? = some (RX2, T, N) := ⟨_, _, _, q.1, q.2.1, rfl⟩
theorem EyeW.V (q : EyeW ε td lD lL g) : ∃ (fs : List Value) (T : u_T) (N : Nat), ε < g.1 ∧ g.2 ε = .inr (.inr (2, fs)) ∧ vwCl[2]? = some (RX2, T, N) := by
  obtain ⟨⟨kD, kL, q, -, -⟩, -, -⟩ := q
  exact q.V
theorem EyeK.setD {l : List Int32} (q : EyeK ε td lD lL kD kL h) (hR : RowAt (ε + 1) 360 l g) (o : Off (ε + 1) 2 h g) : EyeK ε td lD lL l kL g := by
  obtain ⟨q1, q2, q3, q4, q5, q6, q7⟩ := q
  exact ⟨by rw [o.1]; exact q1, by rw [o.2 ε (by omega)]; exact q2, hR, q4.off o (by omega), q5.off o (by omega), q6.off o (by omega), q7⟩
theorem EyeK.setL {l : List Int32} (q : EyeK ε td lD lL kD kL h) (hR : RowAt (ε + 3) 3000 l g) (o : Off (ε + 3) 2 h g) : EyeK ε td lD lL kD l g := by
  obtain ⟨q1, q2, q3, q4, q5, q6, q7⟩ := q
  exact ⟨by rw [o.1]; exact q1, by rw [o.2 ε (by omega)]; exact q2, q3.off o (by omega), hR, q5.off o (by omega), q6.off o (by omega), q7⟩
theorem EyeK.setTD {l : List Int32} (q : EyeK ε td lD lL kD kL h) (hR : TextAt td 0 l g) (o : Off td 5 h g) : EyeK ε td l lL kD kL g := by
  obtain ⟨q1, q2, q3, q4, q5, q6, q7⟩ := q
  exact ⟨by rw [o.1]; exact q1, by rw [o.2 ε (by omega)]; exact q2, q3.off o (by omega), q4.off o (by omega), hR, q6.off o (by omega), q7⟩
theorem EyeK.setTL {l : List Int32} (q : EyeK ε td lD lL kD kL h) (hR : TextAt (td + 5) 1 l g) (o : Off (td + 5) 5 h g) : EyeK ε td lD l kD kL g := by
  obtain ⟨q1, q2, q3, q4, q5, q6, q7⟩ := q
  exact ⟨by rw [o.1]; exact q1, by rw [o.2 ε (by omega)]; exact q2, q3.off o (by omega), q4.off o (by omega), q5.off o (by omega), hR, q7⟩
theorem EyeK.off (q : EyeK ε td lD lL kD kL h) {lo w : Nat} (o : Off lo w h g) (h1 : ε + 5 ≤ lo ∨ lo + w ≤ ε) (h2 : td + 10 ≤ lo ∨ lo + w ≤ td) : EyeK ε td lD lL kD kL g := by
  obtain ⟨q1, q2, q3, q4, q5, q6, q7⟩ := q
  exact ⟨by rw [o.1]; exact q1, by rw [o.2 ε (by omega)]; exact q2, q3.off o (by omega), q4.off o (by omega), q5.off o (by omega), q6.off o (by omega), q7⟩
theorem EyeW.off (q : EyeW ε td lD lL h) {lo w : Nat} (o : Off lo w h g) (h1 : ε + 5 ≤ lo ∨ lo + w ≤ ε) (h2 : td + 10 ≤ lo ∨ lo + w ≤ td) : EyeW ε td lD lL g := by
  obtain ⟨⟨kD, kL, q, m1, m2⟩, t1, t2⟩ := q
  exact ⟨⟨kD, kL, q.off o h1 h2, m1, m2⟩, t1, t2⟩
theorem TxOk.run {l : List Int32} (q : TxOk l) (a b c : Int32) : ∃ x, l.length = 0 ∨ runS a b c l [] = some [x] := by
  rcases q with q | q
  · exact ⟨0, Or.inl q⟩
  · obtain ⟨x, hx⟩ := q a b c
    exact ⟨x, Or.inr hx⟩
theorem ixD (r s h : Nat) : (nI r * 6 + nI s) * 10 + nI h = nI ((r * 6 + s) * 10 + h) := by
  rw [show (6 : Int32) = nI 6 from rfl, show (10 : Int32) = nI 10 from rfl, pk_mul, nI_add, pk_mul, nI_add]
theorem ixL (r s h : Nat) : (nI r * 5 + nI s) * 100 + nI h = nI ((r * 5 + s) * 100 + h) := by
  rw [show (5 : Int32) = nI 5 from rfl, show (100 : Int32) = nI 100 from rfl, pk_mul, nI_add, pk_mul, nI_add]
set_option maxHeartbeats 4000000 in
theorem ct_Eye_driesOf {r s t : Nat} (hR : EyeW ε td lD lL g) (hr : r < 6) (hs : s < 6) (ht : t < 10) (hP : ∀ g', EyeW ε td lD lL g' → OffS (eyS ε td) g g' → P' g') : CV 5 0 0 mX2_driesOf ε [.int (nI r), .int (nI s), .int (nI t)] g (fun v g' => v = some (.int (nI (lawN 0 lD r s t))) ∧ P' g') := by
  refine ⟨hR.V, ?_⟩
  refine ct_of (by decide) (fun _ _ => Nat.le_of_ble_eq_true rfl) ?_
  dsimp only [pad, ent]
  obtain ⟨⟨kD, kL, hE, hMD, hML⟩, hTD, hTL⟩ := hR
  obtain ⟨hl, hl2⟩ := lawN_ok 0 lD r s t
  obtain ⟨x, hx⟩ := hTD.run (nI r) (nI s) (nI t)
  refine aw_P (P' := fun g' => EyeK ε td lD lL kD kL g' ∧ OffS (eyS ε td) g g') (fun g' e => by subst e; exact ⟨hE, OffS.rf _ _⟩) ?_
  have Z : ∀ k : List Int32, MD lD k → k.getD ((r * 6 + s) * 10 + t) 0 = nI (lawN 0 lD r s t + 1) → AW (fun _ => True) (rmd 5 0 0) mX2_driesOf 0 0 46 [some (.ref ε), some (.int (nI r)), some (.int (nI s)), some (.int (nI t)), some (.int (nI ((r * 6 + s) * 10 + t)))] [] (fun g' => EyeK ε td lD lL k kL g' ∧ OffS (eyS ε td) g g') (fun v g' => v = some (.int (nI (lawN 0 lD r s t))) ∧ P' g') := by
    intro k hk hv
    refine r_aload_n (pc := 46) dX2_driesOf_46 rfl ?_
    refine r_getf (pc := 47) (k := 2) dX2_driesOf_47 hX2 eX2 (by decide) fX2_16 (fun _ q => q.1.o) rfl ?_
    refine r_iload (pc := 50) dX2_driesOf_50 rfl ?_
    refine r_Vi (pc := 52) (μ' := mX5_at) dX2_driesOf_52 nX2_38 iX5_at vX5_at kX5_at rfl rfl (rr (by decide) rfl) rfl ⟨Nat.zero_le _, Nat.zero_le _⟩ (fun g' q => ct_Row_at q.1.2.2.1 q) ?_
    rw [atL_nI (by omega), hv]
    refine r_iconst (pc := 55) (v := 1) dX2_driesOf_55 (by decide) ?_
    refine r_isub (pc := 56) dX2_driesOf_56 ?_
    rw [show nI (lawN 0 lD r s t + 1) - 1 = nI (lawN 0 lD r s t) from nI_pred _]
    refine r_ireturn (pc := 57) (ty := .int) dX2_driesOf_57 rfl rfl ⟨Nat.zero_le _, Nat.zero_le _⟩ (fun gE hg => ?_)
    exact ⟨rfl, hP _ ⟨⟨k, kL, hg.1, hk, hML⟩, hTD, hTL⟩ hg.2⟩
  refine r_iload_n (pc := 0) dX2_driesOf_0 rfl ?_
  refine r_bipush (pc := 1) (v := 6) dX2_driesOf_1 (by decide) ?_
  refine r_imul (pc := 3) dX2_driesOf_3 ?_
  refine r_iload_n (pc := 4) dX2_driesOf_4 rfl ?_
  refine r_iadd (pc := 5) dX2_driesOf_5 ?_
  refine r_bipush (pc := 6) (v := 10) dX2_driesOf_6 (by decide) ?_
  refine r_imul (pc := 8) dX2_driesOf_8 ?_
  refine r_iload_n (pc := 9) dX2_driesOf_9 rfl ?_
  refine r_iadd (pc := 10) dX2_driesOf_10 ?_
  rw [ixD]
  refine r_istore (pc := 11) dX2_driesOf_11 (Nat.le_of_ble_eq_true rfl) rfl ?_
  dsimp only [lset]
  refine r_aload_n (pc := 13) dX2_driesOf_13 rfl ?_
  refine r_getf (pc := 14) (k := 2) dX2_driesOf_14 hX2 eX2 (by decide) fX2_16 (fun _ q => q.1.o) rfl ?_
  refine r_iload (pc := 17) dX2_driesOf_17 rfl ?_
  refine r_Vi (pc := 19) (μ' := mX5_at) dX2_driesOf_19 nX2_38 iX5_at vX5_at kX5_at rfl rfl (rr (by decide) rfl) rfl ⟨Nat.zero_le _, Nat.zero_le _⟩ (fun g' q => ct_Row_at q.1.2.2.1 q) ?_
  rw [atL_nI (by omega)]
  refine r_if_ne (pc := 22) 46 dX2_driesOf_22 (by decide) (fun c22 => ?_) (fun c22 => ?_)
  · skip
    exact Z kD hMD ((hMD.2 r s t hr hs ht).resolve_left c22)
  · skip
    refine r_aload_n (pc := 25) dX2_driesOf_25 rfl ?_
    refine r_getf (pc := 26) (k := 2) dX2_driesOf_26 hX2 eX2 (by decide) fX2_16 (fun _ q => q.1.o) rfl ?_
    refine r_iload (pc := 29) dX2_driesOf_29 rfl ?_
    refine r_aload_n (pc := 31) dX2_driesOf_31 rfl ?_
    refine r_getf (pc := 32) (k := 0) dX2_driesOf_32 hX2 eX2 (by decide) fX2_23 (fun _ q => q.1.o) rfl ?_
    refine r_iload_n (pc := 35) dX2_driesOf_35 rfl ?_
    refine r_iload_n (pc := 36) dX2_driesOf_36 rfl ?_
    refine r_iload_n (pc := 37) dX2_driesOf_37 rfl ?_
    refine r_Vi (pc := 38) (μ' := mX8_value) dX2_driesOf_38 nX2_42 iX8_value vX8_value kX8_value rfl rfl (rr (by decide) rfl) rfl ⟨Nat.zero_le _, Nat.zero_le _⟩ (fun g' q => ct_Text_value q.1.2.2.2.2.1 hx (P' := fun g2 => EyeK ε td lD lL kD kL g2 ∧ OffS (eyS ε td) g g2) (fun g2 a b => ⟨q.1.setTD a b, q.2.tr (b.S (fun j h1 h2 => Or.inr ⟨by omega, by omega⟩))⟩)) ?_
    rw [hl]
    refine r_iconst (pc := 41) (v := 1) dX2_driesOf_41 (by decide) ?_
    refine r_iadd (pc := 42) dX2_driesOf_42 ?_
    rw [nI_s]
    refine r_Vv (pc := 43) (μ' := mX5_write) dX2_driesOf_43 nX2_48 iX5_write vX5_write kX5_write rfl rfl (rr (by decide) rfl) rfl ⟨Nat.zero_le _, Nat.zero_le _⟩ (fun g' q => ct_Row_write (P' := fun g2 => EyeK ε td lD lL (kD.set ((r * 6 + s) * 10 + t) (nI (lawN 0 lD r s t + 1))) kL g2 ∧ OffS (eyS ε td) g g2) q.1.2.2.1 (fun g2 a b => by
          rw [wrL_nI (by omega)] at a
          exact ⟨q.1.setD a b, q.2.tr (b.S (fun j h1 h2 => Or.inl ⟨by omega, by omega⟩))⟩)) ?_
    refine Z _ ⟨by rw [List.length_set]; exact hMD.1, fun r' s' t' h1 h2 h3 => ?_⟩ (by rw [getD_set (by rw [hMD.1]; omega), if_pos rfl])
    rw [getD_set (by rw [hMD.1]; omega)]
    by_cases e : (r' * 6 + s') * 10 + t' = (r * 6 + s) * 10 + t
    · rw [if_pos e, show r' = r by omega, show s' = s by omega, show t' = t by omega]; exact Or.inr rfl
    · rw [if_neg e]; exact hMD.2 r' s' t' h1 h2 h3
set_option maxHeartbeats 4000000 in
theorem ct_Eye_lightOf {r s t : Nat} (hR : EyeW ε td lD lL g) (hr : r < 6) (hs : s < 5) (ht : t < 100) (hP : ∀ g', EyeW ε td lD lL g' → OffS (eyS ε td) g g' → P' g') : CV 5 0 0 mX2_lightOf ε [.int (nI r), .int (nI s), .int (nI t)] g (fun v g' => v = some (.int (nI (lawN 1 lL r s t))) ∧ P' g') := by
  refine ⟨hR.V, ?_⟩
  refine ct_of (by decide) (fun _ _ => Nat.le_of_ble_eq_true rfl) ?_
  dsimp only [pad, ent]
  obtain ⟨⟨kD, kL, hE, hMD, hML⟩, hTD, hTL⟩ := hR
  obtain ⟨hl, hl2⟩ := lawN_ok 1 lL r s t
  obtain ⟨x, hx⟩ := hTL.run (nI r) (nI s) (nI t)
  refine aw_P (P' := fun g' => EyeK ε td lD lL kD kL g' ∧ OffS (eyS ε td) g g') (fun g' e => by subst e; exact ⟨hE, OffS.rf _ _⟩) ?_
  have Z : ∀ k : List Int32, ML lL k → k.getD ((r * 5 + s) * 100 + t) 0 = nI (lawN 1 lL r s t + 1) → AW (fun _ => True) (rmd 5 0 0) mX2_lightOf 0 0 45 [some (.ref ε), some (.int (nI r)), some (.int (nI s)), some (.int (nI t)), some (.int (nI ((r * 5 + s) * 100 + t)))] [] (fun g' => EyeK ε td lD lL kD k g' ∧ OffS (eyS ε td) g g') (fun v g' => v = some (.int (nI (lawN 1 lL r s t))) ∧ P' g') := by
    intro k hk hv
    refine r_aload_n (pc := 45) dX2_lightOf_45 rfl ?_
    refine r_getf (pc := 46) (k := 3) dX2_lightOf_46 hX2 eX2 (by decide) fX2_20 (fun _ q => q.1.o) rfl ?_
    refine r_iload (pc := 49) dX2_lightOf_49 rfl ?_
    refine r_Vi (pc := 51) (μ' := mX5_at) dX2_lightOf_51 nX2_38 iX5_at vX5_at kX5_at rfl rfl (rr (by decide) rfl) rfl ⟨Nat.zero_le _, Nat.zero_le _⟩ (fun g' q => ct_Row_at q.1.2.2.2.1 q) ?_
    rw [atL_nI (by omega), hv]
    refine r_iconst (pc := 54) (v := 1) dX2_lightOf_54 (by decide) ?_
    refine r_isub (pc := 55) dX2_lightOf_55 ?_
    rw [show nI (lawN 1 lL r s t + 1) - 1 = nI (lawN 1 lL r s t) from nI_pred _]
    refine r_ireturn (pc := 56) (ty := .int) dX2_lightOf_56 rfl rfl ⟨Nat.zero_le _, Nat.zero_le _⟩ (fun gE hg => ?_)
    exact ⟨rfl, hP _ ⟨⟨kD, k, hg.1, hMD, hk⟩, hTD, hTL⟩ hg.2⟩
  refine r_iload_n (pc := 0) dX2_lightOf_0 rfl ?_
  refine r_iconst (pc := 1) (v := 5) dX2_lightOf_1 (by decide) ?_
  refine r_imul (pc := 2) dX2_lightOf_2 ?_
  refine r_iload_n (pc := 3) dX2_lightOf_3 rfl ?_
  refine r_iadd (pc := 4) dX2_lightOf_4 ?_
  refine r_bipush (pc := 5) (v := 100) dX2_lightOf_5 (by decide) ?_
  refine r_imul (pc := 7) dX2_lightOf_7 ?_
  refine r_iload_n (pc := 8) dX2_lightOf_8 rfl ?_
  refine r_iadd (pc := 9) dX2_lightOf_9 ?_
  rw [ixL]
  refine r_istore (pc := 10) dX2_lightOf_10 (Nat.le_of_ble_eq_true rfl) rfl ?_
  dsimp only [lset]
  refine r_aload_n (pc := 12) dX2_lightOf_12 rfl ?_
  refine r_getf (pc := 13) (k := 3) dX2_lightOf_13 hX2 eX2 (by decide) fX2_20 (fun _ q => q.1.o) rfl ?_
  refine r_iload (pc := 16) dX2_lightOf_16 rfl ?_
  refine r_Vi (pc := 18) (μ' := mX5_at) dX2_lightOf_18 nX2_38 iX5_at vX5_at kX5_at rfl rfl (rr (by decide) rfl) rfl ⟨Nat.zero_le _, Nat.zero_le _⟩ (fun g' q => ct_Row_at q.1.2.2.2.1 q) ?_
  rw [atL_nI (by omega)]
  refine r_if_ne (pc := 21) 45 dX2_lightOf_21 (by decide) (fun c21 => ?_) (fun c21 => ?_)
  · skip
    exact Z kL hML ((hML.2 r s t hr hs ht).resolve_left c21)
  · skip
    refine r_aload_n (pc := 24) dX2_lightOf_24 rfl ?_
    refine r_getf (pc := 25) (k := 3) dX2_lightOf_25 hX2 eX2 (by decide) fX2_20 (fun _ q => q.1.o) rfl ?_
    refine r_iload (pc := 28) dX2_lightOf_28 rfl ?_
    refine r_aload_n (pc := 30) dX2_lightOf_30 rfl ?_
    refine r_getf (pc := 31) (k := 1) dX2_lightOf_31 hX2 eX2 (by decide) fX2_27 (fun _ q => q.1.o) rfl ?_
    refine r_iload_n (pc := 34) dX2_lightOf_34 rfl ?_
    refine r_iload_n (pc := 35) dX2_lightOf_35 rfl ?_
    refine r_iload_n (pc := 36) dX2_lightOf_36 rfl ?_
    refine r_Vi (pc := 37) (μ' := mX8_value) dX2_lightOf_37 nX2_42 iX8_value vX8_value kX8_value rfl rfl (rr (by decide) rfl) rfl ⟨Nat.zero_le _, Nat.zero_le _⟩ (fun g' q => ct_Text_value q.1.2.2.2.2.2.1 hx (P' := fun g2 => EyeK ε td lD lL kD kL g2 ∧ OffS (eyS ε td) g g2) (fun g2 a b => ⟨q.1.setTL a b, q.2.tr (b.S (fun j h1 h2 => Or.inr ⟨by omega, by omega⟩))⟩)) ?_
    rw [hl]
    refine r_iconst (pc := 40) (v := 1) dX2_lightOf_40 (by decide) ?_
    refine r_iadd (pc := 41) dX2_lightOf_41 ?_
    rw [nI_s]
    refine r_Vv (pc := 42) (μ' := mX5_write) dX2_lightOf_42 nX2_48 iX5_write vX5_write kX5_write rfl rfl (rr (by decide) rfl) rfl ⟨Nat.zero_le _, Nat.zero_le _⟩ (fun g' q => ct_Row_write (P' := fun g2 => EyeK ε td lD lL kD (kL.set ((r * 5 + s) * 100 + t) (nI (lawN 1 lL r s t + 1))) g2 ∧ OffS (eyS ε td) g g2) q.1.2.2.2.1 (fun g2 a b => by
          rw [wrL_nI (by omega)] at a
          exact ⟨q.1.setL a b, q.2.tr (b.S (fun j h1 h2 => Or.inl ⟨by omega, by omega⟩))⟩)) ?_
    refine Z _ ⟨by rw [List.length_set]; exact hML.1, fun r' s' t' h1 h2 h3 => ?_⟩ (by rw [getD_set (by rw [hML.1]; omega), if_pos rfl])
    rw [getD_set (by rw [hML.1]; omega)]
    by_cases e : (r' * 5 + s') * 100 + t' = (r * 5 + s) * 100 + t
    · rw [if_pos e, show r' = r by omega, show s' = s by omega, show t' = t by omega]; exact Or.inr rfl
    · rw [if_neg e]; exact hML.2 r' s' t' h1 h2 h3
theorem MD_0 (l : List Int32) : MD l (List.replicate 360 0) := ⟨List.length_replicate, fun r s h h1 h2 h3 => Or.inl (getD_rep (by omega))⟩
theorem ML_0 (l : List Int32) : ML l (List.replicate 3000 0) := ⟨List.length_replicate, fun r s h h1 h2 h3 => Or.inl (getD_rep (by omega))⟩
set_option maxHeartbeats 4000000 in
/-- what was remembered is forgotten: it holds for any texts then -/
theorem ct_Eye_forget (hE : EyeK ε td lD lL kD kL g) (h1 : kD.length = 360) (h2 : kL.length = 3000) (hTD : TxOk lD) (hTL : TxOk lL) (hP : ∀ g', EyeW ε td lD lL g' → Off ε 5 g g' → P' g') : CV 3 0 0 mX2_forget ε [] g (fun v g' => v = none ∧ P' g') := by
  refine ⟨hE.V, ?_⟩
  refine ct_of (by decide) (fun _ _ => Nat.le_of_ble_eq_true rfl) ?_
  dsimp only [pad, ent]
  have c1 : clampI (nI kD.length) 360 = 360 := by rw [h1]; decide
  have c2 : clampI (nI kL.length) 3000 = 3000 := by rw [h2]; decide
  refine aw_P (P' := fun g' => EyeK ε td lD lL kD kL g' ∧ Off ε 5 g g') (fun g' e => by subst e; exact ⟨hE, Off.rf _ _ _⟩) ?_
  refine r_aload_n (pc := 0) dX2_forget_0 rfl ?_
  refine r_getf (pc := 1) (k := 2) dX2_forget_1 hX2 eX2 (by decide) fX2_16 (fun _ q => q.1.o) rfl ?_
  refine r_aload_n (pc := 4) dX2_forget_4 rfl ?_
  refine r_getf (pc := 5) (k := 2) dX2_forget_5 hX2 eX2 (by decide) fX2_16 (fun _ q => q.1.o) rfl ?_
  refine r_Vi (pc := 8) (μ' := mX5_length) dX2_forget_8 nX2_34 iX5_length vX5_length kX5_length rfl rfl (rr (by decide) rfl) rfl ⟨Nat.zero_le _, Nat.zero_le _⟩ (fun g' q => ct_Row_length q.1.2.2.1 q) ?_
  refine r_iconst (pc := 11) (v := 0) dX2_forget_11 (by decide) ?_
  refine r_Vv (pc := 12) (μ' := mX5_fill) dX2_forget_12 nX2_30 iX5_fill vX5_fill kX5_fill rfl rfl (rr (by decide) rfl) rfl ⟨Nat.zero_le _, Nat.zero_le _⟩ (fun g' q => ct_Row_fill (P' := fun g2 => EyeK ε td lD lL (List.replicate 360 0) kL g2 ∧ Off ε 5 g g2) q.1.2.2.1 (fun g2 a b => by rw [c1] at a; exact ⟨q.1.setD a b, q.2.tr (b.wide (by omega) (by omega))⟩)) ?_
  refine r_aload_n (pc := 15) dX2_forget_15 rfl ?_
  refine r_getf (pc := 16) (k := 3) dX2_forget_16 hX2 eX2 (by decide) fX2_20 (fun _ q => q.1.o) rfl ?_
  refine r_aload_n (pc := 19) dX2_forget_19 rfl ?_
  refine r_getf (pc := 20) (k := 3) dX2_forget_20 hX2 eX2 (by decide) fX2_20 (fun _ q => q.1.o) rfl ?_
  refine r_Vi (pc := 23) (μ' := mX5_length) dX2_forget_23 nX2_34 iX5_length vX5_length kX5_length rfl rfl (rr (by decide) rfl) rfl ⟨Nat.zero_le _, Nat.zero_le _⟩ (fun g' q => ct_Row_length q.1.2.2.2.1 q) ?_
  refine r_iconst (pc := 26) (v := 0) dX2_forget_26 (by decide) ?_
  refine r_Vv (pc := 27) (μ' := mX5_fill) dX2_forget_27 nX2_30 iX5_fill vX5_fill kX5_fill rfl rfl (rr (by decide) rfl) rfl ⟨Nat.zero_le _, Nat.zero_le _⟩ (fun g' q => ct_Row_fill (P' := fun g2 => EyeK ε td lD lL (List.replicate 360 0) (List.replicate 3000 0) g2 ∧ Off ε 5 g g2) q.1.2.2.2.1 (fun g2 a b => by rw [c2] at a; exact ⟨q.1.setL a b, q.2.tr (b.wide (by omega) (by omega))⟩)) ?_
  refine r_return (pc := 30) dX2_forget_30 rfl ⟨Nat.zero_le _, Nat.zero_le _⟩ (fun gE hg => ?_)
  exact ⟨rfl, hP _ ⟨⟨_, _, hg.1, MD_0 _, ML_0 _⟩, hTD, hTL⟩ hg.2⟩
end Ey
