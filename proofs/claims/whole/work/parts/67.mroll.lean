/-! STRIPS rolled in any order, with pauses, against STRIPS rolled in order: what is seen -/
def mS (kd m mi : Nat) : Nat → Nat
  | 0 => mi
  | k + 1 => mS kd m mi k + mfN kd m k
def cS (u si : Nat) (p : Nat × Nat × Nat) : Nat → Nat × Nat × Nat
  | 0 => p
  | k + 1 => canN u si (cS u si p k).1 (cS u si p k).2.1 (cS u si p k).2.2
theorem paint_form {kd m s ro st mi he le wh si ca : Nat} {w : Nat → Nat → Int} {v : Nat → Nat → Nat} : ∀ k, paintN kd m s false (ro, st, mi, he, le, wh, si, ca, w, v) k = (ro, st, mS kd m mi k, he, (cS (usesN kd m) si (le, wh, ca) k).1, (cS (usesN kd m) si (le, wh, ca) k).2.1, si, (cS (usesN kd m) si (le, wh, ca) k).2.2, fun r c => if r < k ∧ c = s then ((mS kd m mi (r + 1) : Nat) : Int) else w r c, fun r c => if r < k ∧ c = s then (cS (usesN kd m) si (le, wh, ca) (r + 1)).2.1 else v r c)
  | 0 => by
    show (ro, st, mi, he, le, wh, si, ca, w, v) = _
    rw [show (fun r c => if r < 0 ∧ c = s then ((mS kd m mi (r + 1) : Nat) : Int) else w r c) = w from funext fun r => funext fun c => if_neg (by omega), show (fun r c => if r < 0 ∧ c = s then (cS (usesN kd m) si (le, wh, ca) (r + 1)).2.1 else v r c) = v from funext fun r => funext fun c => if_neg (by omega)]
    rfl
  | k + 1 => by
    show cellK kd m s false k (paintN kd m s false (ro, st, mi, he, le, wh, si, ca, w, v) k) = _
    rw [paint_form k]
    show (ro, st, mS kd m mi (k + 1), he, (cS (usesN kd m) si (le, wh, ca) (k + 1)).1, (cS (usesN kd m) si (le, wh, ca) (k + 1)).2.1, si, (cS (usesN kd m) si (le, wh, ca) (k + 1)).2.2, up2 _ k s ((mS kd m mi (k + 1) : Nat) : Int), up2 _ k s (cS (usesN kd m) si (le, wh, ca) (k + 1)).2.1) = _
    have e1 : ∀ (α : Type) (f : Nat → Nat → α) (g : Nat → α), up2 (fun r c => if r < k ∧ c = s then g r else f r c) k s (g k) = fun r c => if r < k + 1 ∧ c = s then g r else f r c := by
      intro α f g
      funext r c
      unfold up2
      by_cases e : r = k ∧ c = s
      · rw [if_pos e, if_pos (by omega), e.1]
      · rw [if_neg e]
        dsimp only
        by_cases e2 : r < k ∧ c = s
        · rw [if_pos e2, if_pos (by omega)]
        · rw [if_neg e2, if_neg (by omega)]
    rw [e1 Int w (fun r => ((mS kd m mi (r + 1) : Nat) : Int)), e1 Nat v (fun r => (cS (usesN kd m) si (le, wh, ca) (r + 1)).2.1)]
theorem mS_add (kd m mi d : Nat) : ∀ k, mS kd m (mi + d) k = mS kd m mi k + d
  | 0 => rfl
  | k + 1 => by rw [mS, mS_add kd m mi d k, mS]; omega
/-- STRIPS o 0, o 1, .. are rolled, each after a pause -/
def rG (kd m : Nat) (K : CK) (o δ : Nat → Nat) : Nat → CK
  | 0 => K
  | j + 1 => paintK kd m (o j) false (setMi (rG kd m K o δ j) (kMi (rG kd m K o δ j) + δ j))
/-- as X, but that the i-th strip is o i, and times are later -/
def RX (R X : CK) (d : Nat) (o : Nat → Nat) (D : Nat → Nat) (j : Nat) : Prop :=
  X.1 = R.1 ∧ X.2.1 = R.2.1 ∧ kMi X = kMi R + d ∧ kHe X = kHe R ∧ X.2.2.2.2.1 = R.2.2.2.2.1 ∧ X.2.2.2.2.2.1 = R.2.2.2.2.2.1 ∧ X.2.2.2.2.2.2.1 = R.2.2.2.2.2.2.1 ∧ X.2.2.2.2.2.2.2.1 = R.2.2.2.2.2.2.2.1 ∧ ∀ i, i < j → ∀ r, r < R.1 → 0 ≤ kW R r i ∧ kW X r (o i) = kW R r i + D i ∧ kV X r (o i) = kV R r i
theorem RX.step {R X : CK} {d j kd m t : Nat} {o D : Nat → Nat} (q : RX R X d o D j) (ho : ∀ i, i < j → o i ≠ o j) (hD : D j = d + t) : RX (paintK kd m j false R) (paintK kd m (o j) false (setMi X (kMi X + t))) (d + t) o D (j + 1) := by
  obtain ⟨ro, st, mi, he, le, wh, si, ca, w, v⟩ := R
  obtain ⟨ro2, st2, mi2, he2, le2, wh2, si2, ca2, w2, v2⟩ := X
  obtain ⟨h1, h2, h3, h4, h5, h6, h7, h8, h9⟩ := q
  replace h1 : ro2 = ro := h1
  replace h2 : st2 = st := h2
  replace h3 : mi2 = mi + d := h3
  replace h4 : he2 = he := h4
  replace h5 : le2 = le := h5
  replace h6 : wh2 = wh := h6
  replace h7 : si2 = si := h7
  replace h8 : ca2 = ca := h8
  replace h9 : ∀ i, i < j → ∀ r, r < ro → 0 ≤ w r i ∧ w2 r (o i) = w r i + D i ∧ v2 r (o i) = v r i := h9
  subst h1; subst h2; subst h3; subst h4; subst h5; subst h6; subst h7; subst h8
  show RX (paintN kd m j false (ro2, st2, mi, he2, le2, wh2, si2, ca2, w, v) ro2) (paintN kd m (o j) false (ro2, st2, mi + d + t, he2, le2, wh2, si2, ca2, w2, v2) ro2) (d + t) o D (j + 1)
  rw [paint_form, paint_form, Nat.add_assoc, mS_add]
  refine ⟨rfl, rfl, rfl, rfl, rfl, rfl, rfl, rfl, fun i hi r hr => ?_⟩
  have hr : r < ro2 := hr
  show 0 ≤ (if r < ro2 ∧ i = j then ((mS kd m mi (r + 1) : Nat) : Int) else w r i) ∧ (if r < ro2 ∧ o i = o j then ((mS kd m (mi + (d + t)) (r + 1) : Nat) : Int) else w2 r (o i)) = (if r < ro2 ∧ i = j then ((mS kd m mi (r + 1) : Nat) : Int) else w r i) + D i ∧ (if r < ro2 ∧ o i = o j then (cS (usesN kd m) si2 (le2, wh2, ca2) (r + 1)).2.1 else v2 r (o i)) = (if r < ro2 ∧ i = j then (cS (usesN kd m) si2 (le2, wh2, ca2) (r + 1)).2.1 else v r i)
  by_cases e : i = j
  · subst e
    have t1 : r < ro2 ∧ i = i := ⟨hr, rfl⟩
    have t2 : r < ro2 ∧ o i = o i := ⟨hr, rfl⟩
    refine ⟨?_, ?_, ?_⟩
    · rw [if_pos t1]; omega
    · rw [if_pos t2, if_pos t1, mS_add, hD]; omega
    · rw [if_pos t2, if_pos t1]
  · have hne := ho i (by omega)
    have t1 : ¬ (r < ro2 ∧ i = j) := fun x => e x.2
    have t2 : ¬ (r < ro2 ∧ o i = o j) := fun x => hne x.2
    obtain ⟨b1, b2, b3⟩ := h9 i (by omega) r hr
    refine ⟨?_, ?_, ?_⟩
    · rw [if_neg t1]; exact b1
    · rw [if_neg t2, if_neg t1]; exact b2
    · rw [if_neg t2, if_neg t1]; exact b3
theorem sumN_s {f : Nat → Nat} {n : Nat} : sumN f (n + 1) = sumN f n + f n := rfl
theorem rG_rel {kd m n : Nat} {K : CK} {o δ : Nat → Nat} (ho : ∀ i j, i < j → j < n → o i ≠ o j) : ∀ j, j ≤ n → RX (rollsN kd m K j) (rG kd m K o δ j) (sumN δ j) o (fun i => sumN δ (i + 1)) j
  | 0 => fun _ => ⟨rfl, rfl, rfl, rfl, rfl, rfl, rfl, rfl, fun i hi => absurd hi (Nat.not_lt_zero i)⟩
  | j + 1 => fun hj => (rG_rel ho j (by omega)).step (fun i hi => ho i j hi (by omega)) rfl
theorem rollsN_form {kd m : Nat} {K : CK} : ∀ j, (rollsN kd m K j).1 = K.1 ∧ (rollsN kd m K j).2.1 = K.2.1 ∧ kHe (rollsN kd m K j) = kHe K
  | 0 => ⟨rfl, rfl, rfl⟩
  | j + 1 => by
    obtain ⟨a, b, c⟩ := rollsN_form (kd := kd) (m := m) (K := K) j
    obtain ⟨P, hP⟩ : ∃ P, P = rollsN kd m K j := ⟨_, rfl⟩
    show (paintK kd m j false (rollsN kd m K j)).1 = _ ∧ (paintK kd m j false (rollsN kd m K j)).2.1 = _ ∧ kHe (paintK kd m j false (rollsN kd m K j)) = _
    rw [← hP] at a b c ⊢
    obtain ⟨ro, st, mi, he, le, wh, si, ca, w, v⟩ := P
    show (paintN kd m j false (ro, st, mi, he, le, wh, si, ca, w, v) ro).1 = _ ∧ (paintN kd m j false (ro, st, mi, he, le, wh, si, ca, w, v) ro).2.1 = _ ∧ kHe (paintN kd m j false (ro, st, mi, he, le, wh, si, ca, w, v) ro) = _
    rw [paint_form]
    exact ⟨a, b, c⟩
/-- a seam of X is one of R -/
theorem seam_rel {R X : CK} {dr : Nat → Nat → Nat} {r s p q n : Nat} {Δ : Int} (hst : X.2.1 = R.2.1) (hs : s + 1 < kSt R) (hp : p < kSt R) (hq : q < kSt R) (a0 : 0 ≤ kW R r p) (b0 : 0 ≤ kW R r q) (d0 : 0 ≤ Δ) (ha : kW X r s = kW R r p + Δ) (hb : kW X r (s + 1) = kW R r q + (Δ + n)) (va : kV X r s = kV R r p) (vb : kV X r (s + 1) = kV R r q) : seamB X dr r s s (s + 1) 0 = seamB R dr r s p q n ∧ absD (vE X r s) (vE X r (s + 1)) = absD (vE R r p) (vE R r q) := by
  have hst2 : kSt X = kSt R := hst
  have e1 : wE X r s = kW R r p + Δ := by unfold wE; rw [hst2, if_pos (by omega), ha]
  have e2 : wE X r (s + 1) = kW R r q + (Δ + n) := by unfold wE; rw [hst2, if_pos hs, hb]
  have e3 : vE X r s = kV R r p := by unfold vE; rw [hst2, if_pos (by omega), va]
  have e4 : vE X r (s + 1) = kV R r q := by unfold vE; rw [hst2, if_pos hs, vb]
  have f1 : wE R r p = kW R r p := if_pos hp
  have f2 : wE R r q = kW R r q := if_pos hq
  have f3 : vE R r p = kV R r p := if_pos hp
  have f4 : vE R r q = kV R r q := if_pos hq
  refine ⟨?_, by rw [e3, e4, f3, f4]⟩
  unfold seamB
  rw [e1, e2, e3, e4, f1, f2, f3, f4]
  have g1 : ¬ (kW R r p + Δ < 0 ∨ kW R r q + (Δ + (n : Int)) < 0) := by omega
  have g2 : ¬ (kW R r p < 0 ∨ kW R r q < 0) := by omega
  rw [if_neg g1, if_neg g2]
  by_cases c : kV R r p ≠ kV R r q
  · rw [if_pos c, if_pos c]
  · rw [if_neg c, if_neg c]
    rw [show kW R r q + (Δ + ↑n) + ↑(0 : Nat) - (kW R r p + Δ) = kW R r q + ↑n - kW R r p by omega]
theorem sb_rel {R X : CK} {dr : Nat → Nat → Nat} {lt : Nat → Nat → Nat → Nat} {s p q n : Nat} {Δ : Int} (hst : X.2.1 = R.2.1) (hs : s + 1 < kSt R) (hp : p < kSt R) (hq : q < kSt R) (d0 : 0 ≤ Δ) (hh : ∀ r, r < R.1 → 0 ≤ kW R r p ∧ 0 ≤ kW R r q ∧ kW X r s = kW R r p + Δ ∧ kW X r (s + 1) = kW R r q + (Δ + n) ∧ kV X r s = kV R r p ∧ kV X r (s + 1) = kV R r q) : ∀ k, k ≤ R.1 → sbN X dr lt s s (s + 1) 0 k = sbN R dr lt s p q n k
  | 0 => fun _ => rfl
  | k + 1 => fun hk => by
    obtain ⟨a0, b0, ha, hb, va, vb⟩ := hh k (by omega)
    obtain ⟨e1, e2⟩ := seam_rel (dr := dr) hst hs hp hq a0 b0 d0 ha hb va vb
    rw [sbN, sbN, sb_rel hst hs hp hq d0 hh k (by omega), e1, e2]
/-- pauses: what is seen, strip by strip -/
theorem seen_pause {kd m : Nat} {K : CK} {δ : Nat → Nat} {dr : Nat → Nat → Nat} {lt : Nat → Nat → Nat → Nat} : seenN (rG kd m K (fun i => i) δ (kSt K)) dr lt = sumN (fun s => sbN (rollsN kd m K (kSt K)) dr lt s s (s + 1) (δ (s + 1)) (kRo K)) (kSt K - 1) := by
  obtain ⟨h1, h2, h3, h4, -, -, -, -, h9⟩ := rG_rel (kd := kd) (m := m) (n := kSt K) (K := K) (o := fun i => i) (δ := δ) (fun i j hi hj => by omega) (kSt K) (Nat.le_refl _)
  obtain ⟨r1, r2, r3⟩ := rollsN_form (kd := kd) (m := m) (K := K) (kSt K)
  obtain ⟨X, hX⟩ : ∃ X, X = rG kd m K (fun i => i) δ (kSt K) := ⟨_, rfl⟩
  obtain ⟨R, hR⟩ : ∃ R, R = rollsN kd m K (kSt K) := ⟨_, rfl⟩
  rw [← hX] at h1 h2 h3 h4 h9 ⊢
  rw [← hR] at h1 h2 h3 h4 h9 r1 r2 r3 ⊢
  unfold seenN
  rw [seN_sum, show kSt X = kSt K from h2.trans r2, show kRo X = kRo K from h1.trans r1]
  refine sumN_ext _ fun s hs => ?_
  have hk : kSt R = kSt K := r2
  refine sb_rel (Δ := ((sumN δ (s + 1) : Nat) : Int)) h2 (by omega) (by omega) (by omega) (by omega) (fun r hr => ?_) _ (by rw [r1]; exact Nat.le_refl _)
  obtain ⟨a1, a2, a3⟩ := h9 s (by omega) r hr
  obtain ⟨b1, b2, b3⟩ := h9 (s + 1) (by omega) r hr
  refine ⟨a1, b1, a2, ?_, a3, b3⟩
  rw [b2]
  show kW R r (s + 1) + ((sumN δ (s + 1 + 1) : Nat) : Int) = _
  rw [sumN_s (n := s + 1)]
  omega
/-- an order: what is seen, by where the strips stand in it -/
theorem seen_order {kd m : Nat} {K : CK} {o p : Nat → Nat} {dr : Nat → Nat → Nat} {lt : Nat → Nat → Nat → Nat} (ho : ∀ i j, i < j → j < kSt K → o i ≠ o j) (hp : ∀ s, s < kSt K → p s < kSt K ∧ o (p s) = s) : seenN (rG kd m K o (fun _ => 0) (kSt K)) dr lt = sumN (fun s => sbN (rollsN kd m K (kSt K)) dr lt s (p s) (p (s + 1)) 0 (kRo K)) (kSt K - 1) := by
  obtain ⟨h1, h2, h3, h4, -, -, -, -, h9⟩ := rG_rel (kd := kd) (m := m) (n := kSt K) (K := K) (o := o) (δ := fun _ => 0) ho (kSt K) (Nat.le_refl _)
  obtain ⟨r1, r2, r3⟩ := rollsN_form (kd := kd) (m := m) (K := K) (kSt K)
  obtain ⟨X, hX⟩ : ∃ X, X = rG kd m K o (fun _ => 0) (kSt K) := ⟨_, rfl⟩
  obtain ⟨R, hR⟩ : ∃ R, R = rollsN kd m K (kSt K) := ⟨_, rfl⟩
  rw [← hX] at h1 h2 h3 h4 h9 ⊢
  rw [← hR] at h1 h2 h3 h4 h9 r1 r2 r3 ⊢
  unfold seenN
  rw [seN_sum, show kSt X = kSt K from h2.trans r2, show kRo X = kRo K from h1.trans r1]
  refine sumN_ext _ fun s hs => ?_
  have hk : kSt R = kSt K := r2
  obtain ⟨p1, p2⟩ := hp s (by omega)
  obtain ⟨p3, p4⟩ := hp (s + 1) (by omega)
  refine sb_rel (Δ := 0) h2 (by omega) (by omega) (by omega) (Int.le_refl 0) (fun r hr => ?_) _ (by rw [r1]; exact Nat.le_refl _)
  obtain ⟨a1, a2, a3⟩ := h9 (p s) (by omega) r hr
  obtain ⟨b1, b2, b3⟩ := h9 (p (s + 1)) (by omega) r hr
  rw [p2] at a2 a3
  rw [p4] at b2 b3
  have z : ∀ n, sumN (fun _ => 0) n = 0 := sumN_0
  refine ⟨a1, b1, ?_, ?_, a3, b3⟩
  · rw [a2]; dsimp only; rw [z]; rfl
  · rw [b2]; dsimp only; rw [z]; rfl
theorem rG_ok {kd m : Nat} {K : CK} {o δ : Nat → Nat} (ok : KOk K) : ∀ j, KOk (rG kd m K o δ j) ∧ kRo (rG kd m K o δ j) = kRo K ∧ kSt (rG kd m K o δ j) = kSt K ∧ kHe (rG kd m K o δ j) = kHe K
  | 0 => ⟨ok, rfl, rfl, rfl⟩
  | j + 1 => by
    obtain ⟨a, b, c, d⟩ := rG_ok (kd := kd) (m := m) (o := o) (δ := δ) ok j
    obtain ⟨a2, b2, c2, d2⟩ := paintK_ok (kd := kd) (m := m) (s := o j) (up := false) (setMi_ok (mi := kMi (rG kd m K o δ j) + δ j) a)
    exact ⟨a2, b2.trans b, c2.trans c, d2.trans d⟩
theorem rG_tb {kd m D : Nat} {K : CK} {o δ : Nat → Nat} (ok : KOk K) (t : TB K 9999 9999) (hkd : kd < 7) (hm : m < 10) (hD : ∀ j, δ j ≤ D) (hD5 : D ≤ 500) : ∀ j, j ≤ 20 → TB (rG kd m K o δ j) (9999 + j * (D + 36)) 29000
  | 0 => fun _ => t.mono (by omega) (by omega)
  | j + 1 => fun hj => by
    have ih := rG_tb (o := o) (δ := δ) ok t hkd hm hD hD5 j (by omega)
    have h1 := hD j
    have h2 : j * (D + 36) ≤ 19 * 536 := Nat.mul_le_mul (by omega) (by omega)
    have t2 : TB (setMi (rG kd m K o δ j) (kMi (rG kd m K o δ j) + δ j)) (9999 + j * (D + 36) + D) 29000 := (TB.setMi ih).mono (by have := ih.1; omega) (Nat.le_refl _)
    refine (TB.paint t2 (setMi_ok (rG_ok ok j).1) hkd hm (by omega)).mono ?_ (Nat.le_refl _)
    rw [Nat.succ_mul]
    omega
