/-! BOTH, in one heap: the class at o, the reference at o + 95 -/
theorem EyeW.gr {ε td : Nat} {lD lL : List Int32} {h g : AH} (q : EyeW ε td lD lL h) (e : Gr ε 5 h g) (e2 : Gr td 10 h g) : EyeW ε td lD lL g := by
  obtain ⟨⟨kD, kL, q1, q2⟩, q3⟩ := q
  exact ⟨⟨kD, kL, q1.gr e e2, q2⟩, q3⟩
section Pair
variable {o m cnt : Nat} {K K2 : CK} {hs hs2 : List (Nat × Nat)} {lD lL tp wa hd er lD2 lL2 tp2 wa2 hd2 er2 : List Int32} {tD tL tD2 tL2 : Option (List Int32)} {z im z2 im2 : Int32} {kC kC2 : NS} {kM kM2 : MK} {bt bt2 : Nat → Int32} {sh sh2 : Nat → List Int32} {h g g' : AH} {s s2 : Nat → Int32} {A A2 : Nat → Nat → Int32}
theorem GA_gr (q : GA o K hs lD lL tp wa z kC bt sh hd er im h) (e : Gr o 95 h g) : GA o K hs lD lL tp wa z kC bt sh hd er im g := by
  obtain ⟨q1, ⟨q2, f, q3, q4⟩, q5, q6, q7, q8, q9, q10, q11, q12⟩ := q
  exact ⟨⟨Nat.lt_of_lt_of_le q1.1 e.1, by rw [e.2 o (by omega) (by omega)]; exact q1.2⟩, ⟨Nat.lt_of_lt_of_le q2 e.1, f, by rw [e.2 (o + 80) (by omega) (by omega)]; exact q3, q4⟩, q5.gr (e.sub (by omega) (by omega)), q6.gr (e.sub (by omega) (by omega)), q7.gr (e.sub (by omega) (by omega)), q8.gr (e.sub (by omega) (by omega)) (e.sub (by omega) (by omega)), q9.gr (e.sub (by omega) (by omega)), q10.gr (e.sub (by omega) (by omega)), fun i hi => (q11 i hi).gr (e.sub (by omega) (by omega)), q12.gr (e.sub (by omega) (by omega))⟩
theorem mh_gr {w : Nat} (h1 : o + w ≤ m) : Gr o w h (mh m h s A) := ⟨Nat.le_refl _, fun j h2 h3 => by
  show (if j = m then _ else if m < j ∧ j ≤ m + 14 then _ else _) = _
  rw [if_neg (by omega), if_neg (by omega)]⟩
theorem mh_off {w : Nat} (e : g = mh m h s A) (hm : m + 14 < h.1) (h1 : o + w ≤ m) (O : Off o w g g') : MP m g' s A g' ∧ m + 14 < g'.1 := by
  subst e
  have hz : g'.1 = h.1 := O.1
  refine ⟨?_, by omega⟩
  refine Prod.ext rfl (funext fun j => ?_)
  show g'.2 j = (if j = m then _ else if m < j ∧ j ≤ m + 14 then _ else _)
  by_cases e : j = m
  · rw [if_pos e, O.2 j (by omega)]
    exact if_pos e
  · rw [if_neg e]
    by_cases e2 : m < j ∧ j ≤ m + 14
    · rw [if_pos e2, O.2 j (by omega)]
      show (if j = m then _ else if m < j ∧ j ≤ m + 14 then _ else _) = _
      rw [if_neg e, if_pos e2]
    · rw [if_neg e2]
/-- what was kept by an image -/
def KP (kC : NS) (kM : MK) : Prop := (KOk kC.1 ∧ TB kC.1 9999 9999 ∧ HOk kC.2.1) ∧ (kM.1 = kC.1 ∧ kM.2.1 = kC.2.1) ∧ (TR 0 kM.2.2.1 kC.2.2.1 ∧ TR 1 kM.2.2.2.1 kC.2.2.2.1) ∧ kM.2.2.2.2 = kC.2.2.2.2
def WC (cnt : Nat) (K : CK) (hs : List (Nat × Nat)) (lD lL : List Int32) (tD tL : Option (List Int32)) (kC : NS) (kM : MK) (im : Nat) : Prop := KOk K ∧ TB K 9999 9999 ∧ HOk hs ∧ TR 0 tD lD ∧ TR 1 tL lL ∧ KP kC kM ∧ im ≤ cnt
/-- both, alike -/
def WI (o cnt : Nat) (g : AH) : Prop := ∃ (K : CK) (hs : List (Nat × Nat)) (lD lL tp wa : List Int32) (z : Int32) (kC : NS) (tD tL : Option (List Int32)) (kM : MK) (bt : Nat → Int32) (sh : Nat → List Int32) (hd er : List Int32) (im : Nat) (h : AH) (s : Nat → Int32) (A : Nat → Nat → Int32), WC cnt K hs lD lL tD tL kC kM im ∧ GA o K hs lD lL tp wa z kC bt sh hd er (nI im) g ∧ (o + 95 + 14 < h.1 ∧ MG K hs tD tL tp wa z kM bt sh hd er (nI im) s A ∧ g = mh (o + 95) h s A)
theorem WI.mk {im : Nat} (w : WC cnt K hs lD lL tD tL kC kM im) (G : GA o K hs lD lL tp wa z kC bt sh hd er (nI im) g) (hm : o + 95 + 14 < g.1) (M : MG K hs tD tL tp wa z kM bt sh hd er (nI im) s A) : WI o cnt (mh (o + 95) g s A) :=
  ⟨K, hs, lD, lL, tp, wa, z, kC, tD, tL, kM, bt, sh, hd, er, im, g, s, A, w, GA_gr G (mh_gr (Nat.le_refl _)), hm, M, rfl⟩
/-- the reference answers the same, and both stay alike -/
def PO (d : Nat) (μ' : MI) (as : List Value) (o cnt : Nat) (v : Option Value) (g : AH) : Prop := ∃ r : Int32, v = some (.int r) ∧ CV d 0 0 μ' (o + 95) as g (fun v2 g2 => v2 = some (.int r) ∧ WI o (cnt + 1) g2)
theorem WC.up {im : Nat} (w : WC cnt K hs lD lL tD tL kC kM im) : WC (cnt + 1) K hs lD lL tD tL kC kM im := ⟨w.1, w.2.1, w.2.2.1, w.2.2.2.1, w.2.2.2.2.1, w.2.2.2.2.2.1, by have := w.2.2.2.2.2.2; omega⟩
theorem WC.k1 {im : Nat} (w : WC cnt K hs lD lL tD tL kC kM im) (ok : KOk K2) (tb : TB K2 9999 9999) : WC (cnt + 1) K2 hs lD lL tD tL kC kM im := ⟨ok, tb, w.up.2.2⟩
theorem WC.h1 {im : Nat} (w : WC cnt K hs lD lL tD tL kC kM im) (ok : HOk hs2) : WC (cnt + 1) K hs2 lD lL tD tL kC kM im := ⟨w.1, w.2.1, ok, w.up.2.2.2⟩
theorem wi_n {c lo hi : Int32} {n : Nat} (h : c = nI n) (h0 : n ≤ 4000) (h1 : lo.toInt ≤ (n : Int)) (h2 : (n : Int) ≤ hi.toInt) : wiB c lo hi = true := by
  unfold wiB
  rw [h, nI_T h0]
  exact decide_eq_true ⟨h1, h2⟩
theorem hd_n {a : Int32} {i : Nat} (h1 : a = nI i) (h2 : i < hs.length) (hok : HOk hs) : hdB hs a = true := by
  have := hok.1
  unfold hdB hasL
  rw [h1, nI_T (by omega), List.length_map]
  exact decide_eq_true ⟨by omega, by omega⟩
theorem sh_n {a : Int32} {j : Nat} (h1 : a = nI j) (h2 : j < 4) : shB a = true := by
  unfold shB
  rw [h1, nI_T (by omega)]
  exact decide_eq_true ⟨by omega, by omega⟩
theorem st_n {a : Int32} {j n : Nat} (h1 : a = nI j) (h2 : j < n) (h3 : n ≤ 6) : decide (0 ≤ a.toInt ∧ a.toInt < (n : Int)) = true := by
  rw [h1, nI_T (by omega)]
  exact decide_eq_true ⟨by omega, by omega⟩
theorem la_n {a : Int32} {j : Nat} (ok : KOk K) (h1 : a = nI j) (h0 : 1 ≤ j) (h2 : j < kSt K) : laB K a = true := by
  have : kSt K ≤ 6 := ok.2.1.2
  unfold laB
  rw [h1, nI_T (by omega)]
  exact decide_eq_true ⟨by omega, by omega⟩
theorem km_n {a : Int32} {n : Nat} (h1 : a = nI n) (h2 : n < 70) : kmB a = true := by
  unfold kmB
  rw [h1, nI_T (by omega)]
  exact decide_eq_true ⟨by omega, by omega⟩
theorem cel_n {a : Int32} {c : Nat} (ok : KOk K) (h1 : a = nI c) (h2 : c < kRo K * kSt K) : celB K a = true := by
  have h4 : kRo K ≤ 6 := ok.1.2
  have h5 : kSt K ≤ 6 := ok.2.1.2
  have : kRo K * kSt K ≤ 6 * 6 := Nat.mul_le_mul h4 h5
  unfold celB
  rw [h1, nI_T (by omega)]
  exact decide_eq_true ⟨by omega, by rw [← Int.natCast_mul]; omega⟩
theorem nIj {a : Int32} {i j : Nat} (h1 : a = nI i) (h2 : a = nI j) (hi : i ≤ 4000) (hj : j ≤ 4000) : j = i := (nI_eq (by omega) (by omega)).mp (h2.symm.trans h1)
theorem ft {x : Bool} {P : Prop} (h1 : x = false) (h2 : x = true) : P := by rw [h1] at h2; exact absurd h2 (by decide)
-- what stays so
theorem bare_wc {a b : Nat} (ok : KOk K) (tb : TB K 9999 9999) (ha : 1 ≤ a ∧ a ≤ 6) (hb : 1 ≤ b ∧ b ≤ 6) : KOk (buildK K a b) ∧ TB (buildK K a b) 9999 9999 := by
  obtain ⟨ro, st, mi, he, le, wh, si, ca, w, v⟩ := K
  exact ⟨⟨ha, hb, ok.2.2.1, ok.2.2.2.1, ok.2.2.2.2.1, ok.2.2.2.2.2.1, fun _ _ => Nat.zero_le _⟩, tb.1, fun _ _ => ⟨Int.le_refl _, (by decide : (-1 : Int) ≤ 9999)⟩⟩
theorem set_wc {wv v : Int32} (ok : KOk K) (tb : TB K 9999 9999) (h : setOk wv v = true) : KOk (chK K wv v.toInt.toNat) ∧ TB (chK K wv v.toInt.toNat) 9999 9999 := by
  obtain ⟨ro, st, mi, he, le, wh, si, ca, w, t⟩ := K
  obtain ⟨k1, k2, k3, k4, k5, k6, k7⟩ := ok
  unfold setOk at h
  unfold chK
  dsimp only
  by_cases c0 : wv = 0
  · rw [if_pos c0] at h ⊢
    have h := of_decide_eq_true h
    exact ⟨⟨k1, k2, by show v.toInt.toNat ≤ 9; omega, k4, k5, k6, k7⟩, tb⟩
  · rw [if_neg c0] at h ⊢
    by_cases c1 : wv = 1
    · rw [if_pos c1] at h ⊢
      have h := of_decide_eq_true h
      exact ⟨⟨k1, k2, k3, by show v.toInt.toNat ≤ 99; omega, k5, k6, k7⟩, tb⟩
    · rw [if_neg c1] at h ⊢
      by_cases c2 : wv = 2
      · rw [if_pos c2] at h ⊢
        have h := of_decide_eq_true h
        exact ⟨⟨k1, k2, k3, k4, by show v.toInt.toNat ≤ 99; omega, k6, k7⟩, tb⟩
      · rw [if_neg c2] at h ⊢
        by_cases c3 : wv = 3
        · rw [if_pos c3] at h
          have h := of_decide_eq_true h
          exact ⟨⟨k1, k2, k3, k4, k5, by show 1 ≤ v.toInt.toNat ∧ v.toInt.toNat ≤ 99; omega, k7⟩, tb⟩
        · rw [if_neg c3] at h
          exact absurd h (by decide)
theorem hand_wc {n : Nat} (hok : HOk hs) (h1 : hs.length < 6) (h2 : n < 70) : HOk (hs ++ [(n / 10, n % 10)]) := by
  refine ⟨by rw [List.length_append]; exact h1, fun q hq => ?_⟩
  rcases List.mem_append.mp hq with x | x
  · exact hok.2 q x
  · rw [List.mem_singleton.mp x]
    exact ⟨by show n / 10 < 7; omega, by show n % 10 < 10; omega⟩
theorem become_wc {i n : Nat} (hok : HOk hs) (h2 : n < 70) : HOk (hs.set i (n / 10, n % 10)) := by
  refine ⟨by rw [List.length_set]; exact hok.1, fun q hq => ?_⟩
  rcases List.mem_or_eq_of_mem_set hq with x | x
  · exact hok.2 q x
  · rw [x]
    exact ⟨by show n / 10 < 7; omega, by show n % 10 < 10; omega⟩
theorem roll_wc {i sx : Nat} {up : Bool} (ok : KOk K) (tb : TB K 9999 9999) (hok : HOk hs) (hi : i < hs.length) (h9 : kMi K ≤ 9900) : KOk (paintK (hKd hs i) (hMn hs i) sx up K) ∧ TB (paintK (hKd hs i) (hMn hs i) sx up K) 9999 9999 := by
  have hh := hok.at hi
  have t2 : TB K 9900 9999 := ⟨h9, tb.2⟩
  exact ⟨(paintK_ok ok).1, (TB.paint t2 ok hh.1 hh.2 (by decide)).mono (by decide) (Nat.le_refl _)⟩
theorem wh_wc {j : Nat} (ok : KOk K) (tb : TB K 9999 9999) : KOk (whK K (sh j) (whN K (sh j))) ∧ TB (whK K (sh j) (whN K (sh j))) 9999 9999 := by
  have hg : ∀ y, y < whN K (sh j) → goodW (sh j) y = true := fun y hy => stopAt_t hy
  obtain ⟨n, hn⟩ : ∃ n, n = whN K (sh j) := ⟨_, rfl⟩
  rw [← hn] at hg ⊢
  obtain ⟨ro, st, mi, he, le, wh, si, ca, w, v⟩ := K
  obtain ⟨k1, k2, k3, k4, k5, k6, k7⟩ := ok
  refine ⟨⟨k1, k2, k3, k4, k5, k6, fun r x => ?_⟩, tb⟩
  show (if x < st ∧ r * st + x < n then ((sh j).getD (r * st + x) 0).toInt.toNat else v r x) ≤ 99
  split
  · rename_i c
    have := wi_t (show wiB ((sh j).getD (r * st + x) 0) 0 99 = true from hg _ c.2)
    rw [show (99 : Int32).toInt = 99 from rfl] at this
    omega
  · exact k7 r x
theorem TR.tx {u : Nat} {t : Option (List Int32)} {l : List Int32} (hu : u < 2) (h : TR (nI u) t l) : TxOk l := by
  rcases h with ⟨-, h⟩ | ⟨bs, -, h1, h2, h3⟩
  · rw [h]; exact Or.inl rfl
  · rw [h3]; exact TxOk_rd hu h1 h2
end Pair
