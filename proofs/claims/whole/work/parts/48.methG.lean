/-! THE WHOLE (OneGoCeiling): odds, clean, check -/
/-- a fraction with a power of 2 below the line -/
def odR : Nat → Nat → Nat → Nat × Nat
  | 0, a, b => (a, b)
  | n + 1, a, b => if a % 2 = 0 ∧ b % 2 = 0 then odR n (a / 2) (b / 2) else (a, b)
theorem wcN_le {sw sx : List Int32} {st : Nat} {v : Int32} : ∀ w, wcN sw sx st v w ≤ w
  | 0 => Nat.le_refl 0
  | w + 1 => by have := wcN_le (sw := sw) (sx := sx) (st := st) (v := v) w; rw [wcN]; split <;> omega
theorem exF_fst {f f2 : Nat → Nat × List Int32 → Nat × List Int32} (hf : ∀ k b b2, b.1 = b2.1 → (f k b).1 = (f2 k b2).1) : ∀ k b b2, b.1 = b2.1 → (exF f k b).1 = (exF f2 k b2).1
  | 0, b, b2, h => h
  | k + 1, b, b2, h => hf k _ _ (exF_fst hf k b b2 h)
theorem exN_fst {n : Nat} {w : Nat → Nat → Nat → Nat} : ∀ f A v b b2, b.1 = b2.1 → (exN n w f A v b).1 = (exN n w f A v b2).1
  | 0, A, v, b, b2, h => by
    unfold exN
    rw [h]
    split
    · exact h
    · rfl
  | f + 1, A, v, b, b2, h => by
    unfold exN
    rw [h]
    split
    · exact h
    · refine exF_fst (fun k c c2 h2 => ?_) n b b2 h
      split
      · exact h2
      · exact exN_fst f _ _ c c2 h2
/-- what BEST ORDER leaves at a heat, 1 at most -/
def clI (R : CK) (lD lL : List Int32) (he : Nat) : Nat := (exN (kSt R) (SB0 (setHe R he) lD lL) (kSt R) [] 0 (1, [])).1
theorem setHe_ok {K : CK} {x : Nat} (h : KOk K) (hx : x ≤ 9) : KOk (setHe K x) := by
  obtain ⟨ro, st, mi, he, le, wh, si, ca, w, v⟩ := K
  exact ⟨h.1, h.2.1, hx, h.2.2.2⟩
/-- k STRIPS are ROLLED, 0, 1, .. again from 0 behind the last -/
def ckN (kd m : Nat) (K : CK) : Nat → CK
  | 0 => noCan K
  | n + 1 => paintK kd m (n % kSt K) false (ckN kd m K n)
theorem ckN_ok {kd m : Nat} {K : CK} (ok : KOk K) (t : TB K 9999 9999) (hkd : kd < 7) (hm : m < 10) : ∀ n, n ≤ 20 → KOk (ckN kd m K n) ∧ kRo (ckN kd m K n) = kRo K ∧ kSt (ckN kd m K n) = kSt K ∧ kHe (ckN kd m K n) = kHe K ∧ TB (ckN kd m K n) (9999 + 36 * n) 20000
  | 0 => fun _ => ⟨noCan_ok ok, rfl, rfl, rfl, (TB.noCan t).mono (by omega) (by omega)⟩
  | n + 1 => fun hn => by
    obtain ⟨a, b, c, d, e⟩ := ckN_ok ok t hkd hm n (by omega)
    obtain ⟨a2, b2, c2, d2⟩ := paintK_ok (kd := kd) (m := m) (s := n % kSt K) (up := false) a
    exact ⟨a2, b2.trans b, c2.trans c, d2.trans d, (TB.paint e a hkd hm (by omega)).mono (by omega) (by omega)⟩
def ckP (K : CK) (hs : List (Nat × Nat)) (lD lL wa : List Int32) (i : Nat) : Bool := decide (0 < hs.length ∧ nI (seenN (ckN (hKd hs 0) (hMn hs 0) K (i + 1)) (drL lD (kHe (ckN (hKd hs 0) (hMn hs 0) K (i + 1)))) (ltL lL)) = wa.getD i 0)
/-- the answer of check -/
def ckA (K : CK) (hs : List (Nat × Nat)) (lD lL wa : List Int32) : Nat := if stopAt (ckP K hs lD lL wa) wa.length = wa.length then 0 else 1 + stopAt (ckP K hs lD lL wa) wa.length
section MethG
variable {o : Nat} {K K9 R : CK} {hs hs9 : List (Nat × Nat)} {lD lL tp wa hd er sp pl bs sb sw sx : List Int32} {z im be : Int32} {k : NS} {bt : Nat → Int32} {sh : Nat → List Int32} {h g : AH} {Q : Option Value → AH → Prop} {P' : AH → Prop}
def wcG (R : CK) (lD lL : List Int32) (n : Nat) (v : Int32) : Nat := wcN (swL R lD lL 0 (kSt R - 1)) (swL R lD lL n (kSt R - 1)) (kSt R) v (2 ^ (kSt R - 1))
def odI (w st : Nat) (d : Int32) : Int32 := if w = 0 then d else if d = 0 then nI (odR 6 w (2 ^ (st - 1))).1 else nI (odR 6 w (2 ^ (st - 1))).2
theorem half_is : ∀ a, a < 33 → nI a % 2 = nI (a % 2) ∧ nI a / 2 = nI (a / 2) := by decide +kernel
set_option maxHeartbeats 8000000 in
theorem ct_G_odds {a b c d : Int32} (q : GA o K hs lD lL tp wa z k bt sh hd er im g) (ok : KOk K) (tb : TB K 9999 9999) (hok : HOk hs) (e1 : (hdB hs a && wiB b 0 500 && wiB c 0 9999 && wiB d 0 1) = false → ∀ g', GA o K hs lD lL tp wa z k bt sh hd (errL er 1) im g' → Off o 95 g g' → Q (some (.int (-1000000000 - 1))) g') (hP : ∀ i n, a = nI i → i < hs.length → b = nI n → n ≤ 500 → wiB c 0 9999 = true → wiB d 0 1 = true → ∀ g', GA o K hs lD lL tp wa z k bt sh hd er im g' → Off o 95 g g' → Q (some (.int (odI (wcG (thR K hs i) lD lL n c) (kSt K) d))) g') : CV 10 0 0 mX11_odds o [.int a, .int b, .int c, .int d] g Q := by
  refine ⟨q.V, ?_⟩
  refine ct_of (by decide) (fun _ _ => Nat.le_of_ble_eq_true rfl) ?_
  dsimp only [pad, ent]
  have hst : 1 ≤ kSt K ∧ kSt K ≤ 6 := ok.2.1
  have L : ∀ (i n w0 : Nat) (g0 : AH), w0 ≤ 32 → ¬ w0 = 0 → (∀ g', GA o K hs lD lL tp wa z k bt sh hd er im g' → Off o 95 g g' → Q (some (.int (odI w0 (kSt K) d))) g') → ∀ j, j ≤ 6 → ∀ x y, x ≤ 32 → y ≤ 32 → odR (6 - j) x y = odR 6 w0 (2 ^ (kSt K - 1)) → AW (fun _ => True) (rmd 10 0 0) mX11_odds 0 0 102 [some (.ref o), some (.int a), some (.int b), some (.int c), some (.int d), some (.int (nI x)), some (.int (nI y)), some (.int (nI j))] [] (fun g' => GA o K hs lD lL tp wa z k bt sh hd er im g' ∧ Off o 95 g g') Q := by
    intro i n w0 g0 hw hw0 hQ
    have fin : ∀ x y j, (x, y) = odR 6 w0 (2 ^ (kSt K - 1)) → AW (fun _ => True) (rmd 10 0 0) mX11_odds 0 0 141 [some (.ref o), some (.int a), some (.int b), some (.int c), some (.int d), some (.int (nI x)), some (.int (nI y)), some (.int (nI j))] [] (fun g' => GA o K hs lD lL tp wa z k bt sh hd er im g' ∧ Off o 95 g g') Q := by
      intro x y j e
      have ev : odI w0 (kSt K) d = if d = 0 then nI x else nI y := by unfold odI; rw [if_neg hw0, ← e]
      rw [ev] at hQ
      refine r_iload (pc := 141) dX11_odds_141 rfl ?_
      refine r_if_ne (pc := 143) 151 dX11_odds_143 (by decide) (fun c143 => ?_) (fun c143 => ?_)
      · skip
        rw [if_neg c143] at hQ
        refine r_iload (pc := 151) dX11_odds_151 rfl ?_
        refine r_ireturn (pc := 153) (ty := .int) dX11_odds_153 rfl rfl ⟨Nat.zero_le _, Nat.zero_le _⟩ (fun gE hg => ?_)
        exact hQ _ hg.1 hg.2
      · skip
        rw [if_pos c143] at hQ
        refine r_iload (pc := 146) dX11_odds_146 rfl ?_
        refine r_goto (pc := 148) 153 dX11_odds_148 (by decide) ?_
        refine r_ireturn (pc := 153) (ty := .int) dX11_odds_153 rfl rfl ⟨Nat.zero_le _, Nat.zero_le _⟩ (fun gE hg => ?_)
        exact hQ _ hg.1 hg.2
    refine up_loop ?_ ?_
    · intro x y hx hy e
      refine r_iload (pc := 102) dX11_odds_102 rfl ?_
      refine r_bipush (pc := 104) (v := 6) dX11_odds_104 (by decide) ?_
      refine r_icmp_ge (pc := 106) 141 dX11_odds_106 (by decide) (fun c106 => ?_) (fun c106 => ?_)
      · skip
        exact fin x y 6 e
      · skip
        exact absurd (by decide) c106
    · intro j hj ih x y hx hy e
      have hTj := nI_T (n := j) (by omega)
      obtain ⟨x1, x2⟩ := half_is x (by omega)
      obtain ⟨y1, y2⟩ := half_is y (by omega)
      have e6 : 6 - j = (6 - (j + 1)) + 1 := by omega
      rw [e6] at e
      change (if x % 2 = 0 ∧ y % 2 = 0 then odR (6 - (j + 1)) (x / 2) (y / 2) else (x, y)) = _ at e
      refine r_iload (pc := 102) dX11_odds_102 rfl ?_
      refine r_bipush (pc := 104) (v := 6) dX11_odds_104 (by decide) ?_
      refine r_icmp_ge (pc := 106) 141 dX11_odds_106 (by decide) (fun c106 => ?_) (fun c106 => ?_)
      · skip
        exact absurd c106 (fun x => by have := fa_le.mp x; rw [hTj, show (6 : Int32).toInt = 6 from rfl] at this; omega)
      · skip
        refine r_iload (pc := 109) dX11_odds_109 rfl ?_
        refine r_iconst (pc := 111) (v := 2) dX11_odds_111 (by decide) ?_
        refine r_irem' (pc := 112) dX11_odds_112 (by decide) ?_
        rw [x1]
        refine r_if_ne (pc := 113) 141 dX11_odds_113 (by decide) (fun c113 => ?_) (fun c113 => ?_)
        · skip
          rw [if_neg (fun z => c113 (by rw [z.1]; rfl))] at e
          exact fin x y j e
        · skip
          refine r_iload (pc := 116) dX11_odds_116 rfl ?_
          refine r_iconst (pc := 118) (v := 2) dX11_odds_118 (by decide) ?_
          refine r_irem' (pc := 119) dX11_odds_119 (by decide) ?_
          rw [y1]
          refine r_if_ne (pc := 120) 141 dX11_odds_120 (by decide) (fun c120 => ?_) (fun c120 => ?_)
          · skip
            rw [if_neg (fun z => c120 (by rw [z.2]; rfl))] at e
            exact fin x y j e
          · skip
            have hx0 : x % 2 = 0 := by have := fa_eq.mp c113; rw [nI_T (by omega), t0] at this; omega
            have hy0 : y % 2 = 0 := by have := fa_eq.mp c120; rw [nI_T (by omega), t0] at this; omega
            rw [if_pos ⟨hx0, hy0⟩] at e
            refine r_iload (pc := 123) dX11_odds_123 rfl ?_
            refine r_iconst (pc := 125) (v := 2) dX11_odds_125 (by decide) ?_
            refine r_idiv (pc := 126) dX11_odds_126 (by decide) ?_
            rw [x2]
            refine r_istore (pc := 127) dX11_odds_127 (Nat.le_of_ble_eq_true rfl) rfl ?_
            dsimp only [lset]
            refine r_iload (pc := 129) dX11_odds_129 rfl ?_
            refine r_iconst (pc := 131) (v := 2) dX11_odds_131 (by decide) ?_
            refine r_idiv (pc := 132) dX11_odds_132 (by decide) ?_
            rw [y2]
            refine r_istore (pc := 133) dX11_odds_133 (Nat.le_of_ble_eq_true rfl) rfl ?_
            dsimp only [lset]
            refine r_iinc1 (pc := 135) dX11_odds_135 rfl (Nat.le_of_ble_eq_true rfl) rfl ?_
            dsimp only [lset]
            refine r_goto (pc := 138) 102 dX11_odds_138 (by decide) ?_
            rw [nI_s]
            exact ih (x / 2) (y / 2) (by omega) (by omega) e
  refine aw_P (P' := fun g' => GA o K hs lD lL tp wa z k bt sh hd er im g' ∧ Off o 95 g g') (fun g' e => by subst e; exact ⟨q, Off.rf _ _ _⟩) ?_
  refine r_aload_n (pc := 0) dX11_odds_0 rfl ?_
  refine r_getf (pc := 1) (k := 0) dX11_odds_1 hX11 eX11 (by decide) fX11_10 (fun _ q => q.1.oo) rfl ?_
  refine r_getf (pc := 4) (k := 1) dX11_odds_4 hX7 eX7 (by decide) fX11_140 (fun _ q => q.1.s) rfl ?_
  refine r_iload_n (pc := 7) dX11_odds_7 rfl ?_
  refine r_Vi (pc := 8) (μ' := mX1_has) dX11_odds_8 nX11_153 iX1_has vX1_has kX1_has rfl rfl (rr (by omega) rfl) rfl ⟨Nat.zero_le _, Nat.zero_le _⟩ (fun g' q => ct_Crew_has q.1.W q) ?_
  refine r_if_eq (pc := 11) 46 dX11_odds_11 (by decide) (fun c11 => ?_) (fun c11 => ?_)
  · skip
    have k1 : hdB hs a = false := b2i_0.mp c11
    refine r_aload_n (pc := 46) dX11_odds_46 rfl ?_
    refine r_iconst (pc := 47) (v := 1) dX11_odds_47 (by decide) ?_
    refine r_Vi (pc := 48) (μ' := mX11_error) dX11_odds_48 nX11_88 iX11_error vX11_error kX11_error rfl rfl (rr (by omega) rfl) rfl ⟨Nat.zero_le _, Nat.zero_le _⟩ (fun g' q => ct_G_error (P' := fun g2 => Q (some (.int (-1000000000 - 1))) g2) q.1 (fun g2 x y => e1 (by first | (rw [k1]; rfl) | (rw [k1, k2]; rfl) | (rw [k1, k2, k3]; rfl) | (rw [k1, k2, k3, k4]; rfl)) g2 x (q.2.tr y))) ?_
    refine r_ireturn (pc := 51) (ty := .int) dX11_odds_51 rfl rfl ⟨Nat.zero_le _, Nat.zero_le _⟩ (fun gE hg => ?_)
    exact hg
  · skip
    have k1 : hdB hs a = true := b2i_n0.mp c11
    refine r_iload_n (pc := 14) dX11_odds_14 rfl ?_
    refine r_iconst (pc := 15) (v := 0) dX11_odds_15 (by decide) ?_
    refine r_sipush (pc := 16) (v := 500) dX11_odds_16 (by decide) ?_
    refine r_Sp (pc := 19) (μ' := mX11_within) dX11_odds_19 nX11_84 sX11_within kX11_within rfl rfl (rr (by omega) rfl) rfl ⟨Nat.zero_le _, Nat.zero_le _⟩ (fun h => ct_G_within h) ?_
    refine r_if_eq (pc := 22) 46 dX11_odds_22 (by decide) (fun c22 => ?_) (fun c22 => ?_)
    · skip
      have k2 := b2i_0.mp c22
      refine r_aload_n (pc := 46) dX11_odds_46 rfl ?_
      refine r_iconst (pc := 47) (v := 1) dX11_odds_47 (by decide) ?_
      refine r_Vi (pc := 48) (μ' := mX11_error) dX11_odds_48 nX11_88 iX11_error vX11_error kX11_error rfl rfl (rr (by omega) rfl) rfl ⟨Nat.zero_le _, Nat.zero_le _⟩ (fun g' q => ct_G_error (P' := fun g2 => Q (some (.int (-1000000000 - 1))) g2) q.1 (fun g2 x y => e1 (by first | (rw [k1]; rfl) | (rw [k1, k2]; rfl) | (rw [k1, k2, k3]; rfl) | (rw [k1, k2, k3, k4]; rfl)) g2 x (q.2.tr y))) ?_
      refine r_ireturn (pc := 51) (ty := .int) dX11_odds_51 rfl rfl ⟨Nat.zero_le _, Nat.zero_le _⟩ (fun gE hg => ?_)
      exact hg
    · skip
      have k2 := b2i_n0.mp c22
      refine r_iload_n (pc := 25) dX11_odds_25 rfl ?_
      refine r_iconst (pc := 26) (v := 0) dX11_odds_26 (by decide) ?_
      refine r_sipush (pc := 27) (v := 9999) dX11_odds_27 (by decide) ?_
      refine r_Sp (pc := 30) (μ' := mX11_within) dX11_odds_30 nX11_84 sX11_within kX11_within rfl rfl (rr (by omega) rfl) rfl ⟨Nat.zero_le _, Nat.zero_le _⟩ (fun h => ct_G_within h) ?_
      refine r_if_eq (pc := 33) 46 dX11_odds_33 (by decide) (fun c33 => ?_) (fun c33 => ?_)
      · skip
        have k3 := b2i_0.mp c33
        refine r_aload_n (pc := 46) dX11_odds_46 rfl ?_
        refine r_iconst (pc := 47) (v := 1) dX11_odds_47 (by decide) ?_
        refine r_Vi (pc := 48) (μ' := mX11_error) dX11_odds_48 nX11_88 iX11_error vX11_error kX11_error rfl rfl (rr (by omega) rfl) rfl ⟨Nat.zero_le _, Nat.zero_le _⟩ (fun g' q => ct_G_error (P' := fun g2 => Q (some (.int (-1000000000 - 1))) g2) q.1 (fun g2 x y => e1 (by first | (rw [k1]; rfl) | (rw [k1, k2]; rfl) | (rw [k1, k2, k3]; rfl) | (rw [k1, k2, k3, k4]; rfl)) g2 x (q.2.tr y))) ?_
        refine r_ireturn (pc := 51) (ty := .int) dX11_odds_51 rfl rfl ⟨Nat.zero_le _, Nat.zero_le _⟩ (fun gE hg => ?_)
        exact hg
      · skip
        have k3 := b2i_n0.mp c33
        refine r_iload (pc := 36) dX11_odds_36 rfl ?_
        refine r_iconst (pc := 38) (v := 0) dX11_odds_38 (by decide) ?_
        refine r_iconst (pc := 39) (v := 1) dX11_odds_39 (by decide) ?_
        refine r_Sp (pc := 40) (μ' := mX11_within) dX11_odds_40 nX11_84 sX11_within kX11_within rfl rfl (rr (by omega) rfl) rfl ⟨Nat.zero_le _, Nat.zero_le _⟩ (fun h => ct_G_within h) ?_
        refine r_if_ne (pc := 43) 52 dX11_odds_43 (by decide) (fun c43 => ?_) (fun c43 => ?_)
        · skip
          have k4 := b2i_n0.mp c43
          obtain ⟨i, hi, hi2⟩ := hd_t k1 hok
          obtain ⟨n, hn, hn2⟩ := wi_nat k2 (by decide)
          have hn3 : n ≤ 500 := by rw [show (500 : Int32).toInt = 500 from rfl] at hn2; omega
          obtain ⟨r1, r2, r3, r4, r5⟩ := thR_ok ok tb hok hi2
          have h7 := hP i n hi hi2 hn hn3 k3 k4
          have hw0 : wcG (thR K hs i) lD lL n c ≤ 2 ^ (kSt K - 1) := by unfold wcG; rw [r3]; exact wcN_le _
          have hw1 := p2_le (k := kSt K - 1) (by omega)
          obtain ⟨w, hw⟩ : ∃ w, w = wcG (thR K hs i) lD lL n c := ⟨_, rfl⟩
          rw [← hw] at h7 hw0
          refine r_aload_n (pc := 52) dX11_odds_52 rfl ?_
          refine r_getf (pc := 53) (k := 4) dX11_odds_53 hX11 eX11 (by decide) fX11_47 (fun _ q => q.1.oo) rfl ?_
          refine r_aload_n (pc := 56) dX11_odds_56 rfl ?_
          refine r_getf (pc := 57) (k := 0) dX11_odds_57 hX11 eX11 (by decide) fX11_10 (fun _ q => q.1.oo) rfl ?_
          refine r_iload_n (pc := 60) dX11_odds_60 rfl ?_
          rw [hi]
          refine r_Vv (pc := 61) (μ' := mX9_rollAll) dX11_odds_61 nX11_256 iX9_rollAll vX9_rollAll kX9_rollAll rfl rfl (rr (by omega) rfl) rfl ⟨Nat.zero_le _, Nat.zero_le _⟩ (fun g' q => rollAll_G q ok hok hi2 (fun g2 x => x)) ?_
          refine aw_ex fun be => aw_ex fun sp => aw_ex fun pl => aw_ex fun bs => aw_ex fun sb => aw_ex fun sw => aw_ex fun sx => ?_
          refine r_aload_n (pc := 64) dX11_odds_64 rfl ?_
          refine r_getf (pc := 65) (k := 4) dX11_odds_65 hX11 eX11 (by decide) fX11_47 (fun _ q => q.1.oo) rfl ?_
          refine r_iload_n (pc := 68) dX11_odds_68 rfl ?_
          rw [hn]
          refine r_Vv (pc := 69) (μ' := mX9_weighPauses) dX11_odds_69 nX11_282 iX9_weighPauses vX9_weighPauses kX9_weighPauses rfl rfl (rr (by omega) rfl) rfl ⟨Nat.zero_le _, Nat.zero_le _⟩ (fun g' q => weighP_G q r1 r5 (by omega) (fun g2 x => x)) ?_
          refine r_aload_n (pc := 72) dX11_odds_72 rfl ?_
          refine r_getf (pc := 73) (k := 4) dX11_odds_73 hX11 eX11 (by decide) fX11_47 (fun _ q => q.1.oo) rfl ?_
          refine r_iload_n (pc := 76) dX11_odds_76 rfl ?_
          refine r_Vi (pc := 77) (μ' := mX9_waysSeenAtMost) dX11_odds_77 nX11_304 iX9_waysSeenAtMost vX9_waysSeenAtMost kX9_waysSeenAtMost rfl rfl (rr (by omega) rfl) rfl ⟨Nat.zero_le _, Nat.zero_le _⟩ (fun g' q => ct_Th_waysSeenAtMost q.1.2 r1 q) ?_
          rw [show wcN (swL (thR K hs i) lD lL 0 (kSt (thR K hs i) - 1)) (swL (thR K hs i) lD lL n (kSt (thR K hs i) - 1)) (kSt (thR K hs i)) c (2 ^ (kSt (thR K hs i) - 1)) = w from hw.symm]
          refine r_istore (pc := 80) dX11_odds_80 (Nat.le_of_ble_eq_true rfl) rfl ?_
          dsimp only [lset]
          refine r_aload_n (pc := 82) dX11_odds_82 rfl ?_
          refine r_getf (pc := 83) (k := 4) dX11_odds_83 hX11 eX11 (by decide) fX11_47 (fun _ q => q.1.oo) rfl ?_
          refine r_Vi (pc := 86) (μ' := mX9_waysOfPauses) dX11_odds_86 nX11_307 iX9_waysOfPauses vX9_waysOfPauses kX9_waysOfPauses rfl rfl (rr (by omega) rfl) rfl ⟨Nat.zero_le _, Nat.zero_le _⟩ (fun g' q => ct_Th_waysOfPauses q.1.2 r1 q) ?_
          rw [r3]
          refine r_istore (pc := 89) dX11_odds_89 (Nat.le_of_ble_eq_true rfl) rfl ?_
          dsimp only [lset]
          refine r_iload (pc := 91) dX11_odds_91 rfl ?_
          refine r_if_ne (pc := 93) 99 dX11_odds_93 (by decide) (fun c93 => ?_) (fun c93 => ?_)
          · skip
            have hw2 : ¬ w = 0 := fun x => c93 (by rw [x]; rfl)
            refine r_iconst (pc := 99) (v := 0) dX11_odds_99 (by decide) ?_
            refine r_istore (pc := 100) dX11_odds_100 (Nat.le_of_ble_eq_true rfl) rfl ?_
            dsimp only [lset]
            rw [← hi, ← hn]
            exact aw_P (fun g' q => ⟨q.1.1, q.2⟩) (L i n w g (by omega) hw2 h7 0 (by omega) w _ (by omega) hw1 rfl)
          · skip
            have hw2 : w = 0 := by have := fa_eq.mp c93; rw [nI_T (by omega), t0] at this; omega
            rw [show odI w (kSt K) d = d from if_pos hw2] at h7
            refine r_iload (pc := 96) dX11_odds_96 rfl ?_
            refine r_ireturn (pc := 98) (ty := .int) dX11_odds_98 rfl rfl ⟨Nat.zero_le _, Nat.zero_le _⟩ (fun gE hg => ?_)
            exact h7 _ hg.1.1 hg.2
        · skip
          have k4 := b2i_0.mp c43
          refine r_aload_n (pc := 46) dX11_odds_46 rfl ?_
          refine r_iconst (pc := 47) (v := 1) dX11_odds_47 (by decide) ?_
          refine r_Vi (pc := 48) (μ' := mX11_error) dX11_odds_48 nX11_88 iX11_error vX11_error kX11_error rfl rfl (rr (by omega) rfl) rfl ⟨Nat.zero_le _, Nat.zero_le _⟩ (fun g' q => ct_G_error (P' := fun g2 => Q (some (.int (-1000000000 - 1))) g2) q.1 (fun g2 x y => e1 (by first | (rw [k1]; rfl) | (rw [k1, k2]; rfl) | (rw [k1, k2, k3]; rfl) | (rw [k1, k2, k3, k4]; rfl)) g2 x (q.2.tr y))) ?_
          refine r_ireturn (pc := 51) (ty := .int) dX11_odds_51 rfl rfl ⟨Nat.zero_le _, Nat.zero_le _⟩ (fun gE hg => ?_)
          exact hg
theorem kd_2 {a : Int32} (h : wiB a 0 1 = true) (h0 : ¬ a = 0) : a = 1 := by
  rcases wi01.mp h with e | e
  · exact absurd e h0
  · exact e
set_option maxHeartbeats 8000000 in
theorem ct_G_clean {a b : Int32} (q : GA o K hs lD lL tp wa z k bt sh hd er im g) (ok : KOk K) (tb : TB K 9999 9999) (hok : HOk hs) (e1 : (hdB hs a && wiB b 0 1) = false → ∀ g', GA o K hs lD lL tp wa z k bt sh hd (errL er 1) im g' → Off o 95 g g' → Q (some (.int (-1000000000 - 1))) g') (e2 : ∀ i, a = nI i → i < hs.length → wiB b 0 1 = true → (∀ he, he < 10 → ¬ clI (thR K hs i) lD lL he = 0) → ∀ g', GA o K hs lD lL tp wa z k bt sh hd (errL er 2) im g' → Off o 95 g g' → Q (some (.int (-1000000000 - 2))) g') (hP : ∀ i he, a = nI i → i < hs.length → wiB b 0 1 = true → he < 10 → clI (thR K hs i) lD lL he = 0 → (b = 0 → ∀ x, x < he → ¬ clI (thR K hs i) lD lL x = 0) → (b = 1 → ∀ x, he < x → x < 10 → ¬ clI (thR K hs i) lD lL x = 0) → ∀ g', GA o K hs lD lL tp wa z k bt sh hd er im g' → Off o 95 g g' → Q (some (.int (nI he))) g') : CV 20 0 0 mX11_clean o [.int a, .int b] g Q := by
  refine ⟨q.V, ?_⟩
  refine ct_of (by decide) (fun _ _ => Nat.le_of_ble_eq_true rfl) ?_
  dsimp only [pad, ent]
  have hst : 1 ≤ kSt K ∧ kSt K ≤ 6 := ok.2.1
  have L : ∀ i, a = nI i → i < hs.length → wiB b 0 1 = true → ∀ j, j ≤ 10 → (∀ x, x < j → ¬ clI (thR K hs i) lD lL (if b = 0 then x else 9 - x) = 0) → AW (fun _ => True) (rmd 20 0 0) mX11_clean 0 0 43 [some (.ref o), some (.int (nI i)), some (.int b), some (.int (nI j)), none] [] (fun g' => ∃ be x sp pl bs sb sw sx, x ≤ 9 ∧ (GT o K hs lD lL tp wa z k bt sh hd er im be (setHe (thR K hs i) x) sp pl bs sb sw sx g' ∧ Off o 95 g g')) Q := by
    intro i hi hi2 hb
    obtain ⟨r1, r2, r3, r4, r5⟩ := thR_ok ok tb hok hi2
    have h2 := e2 i hi hi2 hb
    have hP2 := fun he => hP i he hi hi2 hb
    obtain ⟨R, hR⟩ : ∃ R, R = thR K hs i := ⟨_, rfl⟩
    rw [← hR] at r1 r2 r3 r4 r5 h2 hP2 ⊢
    obtain ⟨ro, st, mi, he0, le, wh, si, ca, w, v⟩ := R
    refine up_loop ?_ ?_
    · intro hn
      refine aw_ex fun be => aw_ex fun x => aw_ex fun sp => aw_ex fun pl => aw_ex fun bs => aw_ex fun sb => aw_ex fun sw => aw_ex fun sx => aw_pr fun hx => ?_
      refine r_iload_n (pc := 43) dX11_clean_43 rfl ?_
      refine r_bipush (pc := 44) (v := 9) dX11_clean_44 (by decide) ?_
      refine r_icmp_gt (pc := 46) 106 dX11_clean_46 (by decide) (fun c46 => ?_) (fun c46 => ?_)
      · skip
        refine r_aload_n (pc := 106) dX11_clean_106 rfl ?_
        refine r_iconst (pc := 107) (v := 2) dX11_clean_107 (by decide) ?_
        refine r_Vi (pc := 108) (μ' := mX11_error) (a := o) dX11_clean_108 nX11_88 iX11_error vX11_error kX11_error rfl rfl (rr (by omega) rfl) rfl ⟨Nat.zero_le _, Nat.zero_le _⟩ (fun g' q => ct_G_error (P' := fun g2 => Q (some (.int (-1000000000 - 2))) g2) q.1.1 (fun g2 x y => h2 (fun he hh => by
              by_cases c : b = 0
              · have := hn he hh; rw [if_pos c] at this; exact this
              · have := hn (9 - he) (by omega); rw [if_neg c, show 9 - (9 - he) = he by omega] at this; exact this) g2 x (q.2.tr y))) ?_
        refine r_ireturn (pc := 111) (ty := .int) dX11_clean_111 rfl rfl ⟨Nat.zero_le _, Nat.zero_le _⟩ (fun gE hg => ?_)
        exact hg
      · skip
        exact absurd (by decide) c46
    · intro j hj ih hn
      have hTj := nI_T (n := j) (by omega)
      refine aw_ex fun be => aw_ex fun x0 => aw_ex fun sp => aw_ex fun pl => aw_ex fun bs => aw_ex fun sb => aw_ex fun sw => aw_ex fun sx => aw_pr fun hx0 => ?_
      have body : ∀ he, he ≤ 9 → he = (if b = 0 then j else 9 - j) → AW (fun _ => True) (rmd 20 0 0) mX11_clean 0 0 61 [some (.ref o), some (.int (nI i)), some (.int b), some (.int (nI j)), none] [.int (nI he)] (fun g' => GT o K hs lD lL tp wa z k bt sh hd er im be (setHe (ro, st, mi, he0, le, wh, si, ca, w, v) x0) sp pl bs sb sw sx g' ∧ Off o 95 g g') Q := by
        intro he hhe hhe2
        have ok2 : KOk (setHe (ro, st, mi, he0, le, wh, si, ca, w, v) he) := setHe_ok r1 hhe
        have hbest : ∀ bs : List Int32, (exN st (SB0 (ro, st, mi, he, le, wh, si, ca, w, v) lD lL) st [] 0 (1, bs)).1 = clI (ro, st, mi, he0, le, wh, si, ca, w, v) lD lL he := fun bs => exN_fst _ _ _ _ _ rfl
        refine r_istore (pc := 61) dX11_clean_61 (Nat.le_of_ble_eq_true rfl) rfl ?_
        dsimp only [lset]
        refine r_aload_n (pc := 63) dX11_clean_63 rfl ?_
        refine r_getf (pc := 64) (k := 4) dX11_clean_64 hX11 eX11 (by decide) fX11_47 (fun _ q => q.1.1.oo) rfl ?_
        refine r_iload (pc := 67) dX11_clean_67 rfl ?_
        refine r_Vv (pc := 69) (μ' := mX9_warmTo) dX11_clean_69 nX11_276 iX9_warmTo vX9_warmTo kX9_warmTo rfl rfl (rr (by omega) rfl) rfl ⟨Nat.zero_le _, Nat.zero_le _⟩ (fun g' q => ct_Th_warmTo (P' := fun g2 => GT o K hs lD lL tp wa z k bt sh hd er im be (ro, st, mi, he, le, wh, si, ca, w, v) sp pl bs sb sw sx g2 ∧ Off o 95 g g2) q.1.2 (fun g2 x y => ⟨⟨q.1.1.setTh x.any y, x⟩, q.2.tr (y.wide (by omega) (by omega))⟩)) ?_
        refine r_aload_n (pc := 72) dX11_clean_72 rfl ?_
        refine r_getf (pc := 73) (k := 4) dX11_clean_73 hX11 eX11 (by decide) fX11_47 (fun _ q => q.1.1.oo) rfl ?_
        refine r_Vv (pc := 76) (μ' := mX9_weighPlaces) dX11_clean_76 nX11_263 iX9_weighPlaces vX9_weighPlaces kX9_weighPlaces rfl rfl (rr (by omega) rfl) rfl ⟨Nat.zero_le _, Nat.zero_le _⟩ (fun g' q => weighO_G q ok2 r5 (fun g2 x => x)) ?_
        refine aw_ex fun sb2 => aw_pr fun hw => ?_
        refine r_aload_n (pc := 79) dX11_clean_79 rfl ?_
        refine r_getf (pc := 80) (k := 4) dX11_clean_80 hX11 eX11 (by decide) fX11_47 (fun _ q => q.1.1.oo) rfl ?_
        refine r_iconst (pc := 83) (v := 1) dX11_clean_83 (by decide) ?_
        rw [show (1 : Int32) = nI 1 from rfl]
        refine r_Vv (pc := 84) (μ' := mX9_findBelow) dX11_clean_84 nX11_267 iX9_findBelow vX9_findBelow kX9_findBelow rfl rfl (rr (by omega) rfl) rfl ⟨Nat.zero_le _, Nat.zero_le _⟩ (fun g' q => ct_Th_findBelow (w := SB0 (ro, st, mi, he, le, wh, si, ca, w, v) lD lL) (P' := fun g2 => ∃ sp pl bs2, GT o K hs lD lL tp wa z k bt sh hd er im (nI (clI (ro, st, mi, he0, le, wh, si, ca, w, v) lD lL he)) (ro, st, mi, he, le, wh, si, ca, w, v) sp pl bs2 sb2 sw sx g2 ∧ Off o 95 g g2) q.1.2 ok2 (hw.ws ok2) (fun s p q => SB_le ok2 lD lL s p q 0) (by omega) (fun g2 sp2 pl2 x y => ⟨sp2, pl2, _, ⟨q.1.1.setTh x.any y, by rw [← hbest]; exact x⟩, q.2.tr (y.wide (by omega) (by omega))⟩)) ?_
        refine aw_ex fun sp3 => aw_ex fun pl3 => aw_ex fun bs3 => ?_
        refine r_aload_n (pc := 87) dX11_clean_87 rfl ?_
        refine r_getf (pc := 88) (k := 4) dX11_clean_88 hX11 eX11 (by decide) fX11_47 (fun _ q => q.1.1.oo) rfl ?_
        refine r_Vi (pc := 91) (μ' := mX9_best) dX11_clean_91 nX11_270 iX9_best vX9_best kX9_best rfl rfl (rr (by omega) rfl) rfl ⟨Nat.zero_le _, Nat.zero_le _⟩ (fun g' q => ct_Th_best q.1.2 q) ?_
        refine r_if_ne (pc := 94) 100 dX11_clean_94 (by decide) (fun c94 => ?_) (fun c94 => ?_)
        · skip
          have h0 : ¬ clI (ro, st, mi, he0, le, wh, si, ca, w, v) lD lL he = 0 := fun x => c94 (by rw [x]; rfl)
          refine r_iinc1 (pc := 100) dX11_clean_100 rfl (Nat.le_of_ble_eq_true rfl) rfl ?_
          dsimp only [lset]
          refine r_goto (pc := 103) 43 dX11_clean_103 (by decide) ?_
          rw [nI_s]
          refine aw_dr 4 rfl ?_
          refine aw_P (fun g' q => ?_) (ih (fun x hx => by
            by_cases c : x = j
            · rw [c, ← hhe2]; exact h0
            · exact hn x (by omega)))
          exact ⟨_, he, _, _, _, _, _, _, hhe, q⟩
        · skip
          have h0 : clI (ro, st, mi, he0, le, wh, si, ca, w, v) lD lL he = 0 := by
            have h1 : clI (ro, st, mi, he0, le, wh, si, ca, w, v) lD lL he ≤ 1 := exN_le _ _ _ _
            have := fa_eq.mp c94
            rw [nI_T (by omega), t0] at this
            omega
          refine r_iload (pc := 97) dX11_clean_97 rfl ?_
          refine r_ireturn (pc := 99) (ty := .int) dX11_clean_99 rfl rfl ⟨Nat.zero_le _, Nat.zero_le _⟩ (fun gE hg => ?_)
          exact hP2 he (by omega) h0 (fun hb0 x hx => by
            rw [if_pos hb0] at hhe2
            have := hn x (by omega)
            rw [if_pos hb0] at this
            exact this) (fun hb1 x hx hx9 => by
            have hb0 : ¬ b = 0 := by rw [hb1]; decide
            rw [if_neg hb0] at hhe2
            have := hn (9 - x) (by omega)
            rw [if_neg hb0, show 9 - (9 - x) = x by omega] at this
            exact this) _ hg.1.1 hg.2
      refine r_iload_n (pc := 43) dX11_clean_43 rfl ?_
      refine r_bipush (pc := 44) (v := 9) dX11_clean_44 (by decide) ?_
      refine r_icmp_gt (pc := 46) 106 dX11_clean_46 (by decide) (fun c46 => ?_) (fun c46 => ?_)
      · skip
        exact absurd c46 (fun x => by have := fa_lt.mp x; rw [hTj, show (9 : Int32).toInt = 9 from rfl] at this; omega)
      · skip
        refine r_iload_n (pc := 49) dX11_clean_49 rfl ?_
        refine r_if_ne (pc := 50) 57 dX11_clean_50 (by decide) (fun c50 => ?_) (fun c50 => ?_)
        · skip
          have hb1 := kd_2 hb c50
          refine r_bipush (pc := 57) (v := 9) dX11_clean_57 (by decide) ?_
          refine r_iload_n (pc := 59) dX11_clean_59 rfl ?_
          refine r_isub (pc := 60) dX11_clean_60 ?_
          first
          | exact body j (by omega) (if_pos c50).symm
          | (rw [show (9 : Int32) = nI 9 from rfl, pk_sub (show j ≤ 9 by omega)]; exact body (9 - j) (by omega) (if_neg c50).symm)
        · skip
          refine r_iload_n (pc := 53) dX11_clean_53 rfl ?_
          refine r_goto (pc := 54) 61 dX11_clean_54 (by decide) ?_
          first
          | exact body j (by omega) (if_pos c50).symm
          | (rw [show (9 : Int32) = nI 9 from rfl, pk_sub (show j ≤ 9 by omega)]; exact body (9 - j) (by omega) (if_neg c50).symm)
  refine aw_P (P' := fun g' => GA o K hs lD lL tp wa z k bt sh hd er im g' ∧ Off o 95 g g') (fun g' e => by subst e; exact ⟨q, Off.rf _ _ _⟩) ?_
  refine r_aload_n (pc := 0) dX11_clean_0 rfl ?_
  refine r_getf (pc := 1) (k := 0) dX11_clean_1 hX11 eX11 (by decide) fX11_10 (fun _ q => q.1.oo) rfl ?_
  refine r_getf (pc := 4) (k := 1) dX11_clean_4 hX7 eX7 (by decide) fX11_140 (fun _ q => q.1.s) rfl ?_
  refine r_iload_n (pc := 7) dX11_clean_7 rfl ?_
  refine r_Vi (pc := 8) (μ' := mX1_has) dX11_clean_8 nX11_153 iX1_has vX1_has kX1_has rfl rfl (rr (by omega) rfl) rfl ⟨Nat.zero_le _, Nat.zero_le _⟩ (fun g' q => ct_Crew_has q.1.W q) ?_
  refine r_if_eq (pc := 11) 23 dX11_clean_11 (by decide) (fun c11 => ?_) (fun c11 => ?_)
  · skip
    have k1 : hdB hs a = false := b2i_0.mp c11
    refine r_aload_n (pc := 23) dX11_clean_23 rfl ?_
    refine r_iconst (pc := 24) (v := 1) dX11_clean_24 (by decide) ?_
    refine r_Vi (pc := 25) (μ' := mX11_error) dX11_clean_25 nX11_88 iX11_error vX11_error kX11_error rfl rfl (rr (by omega) rfl) rfl ⟨Nat.zero_le _, Nat.zero_le _⟩ (fun g' q => ct_G_error (P' := fun g2 => Q (some (.int (-1000000000 - 1))) g2) q.1 (fun g2 x y => e1 (by first | (rw [k1]; rfl) | (rw [k1, k2]; rfl)) g2 x (q.2.tr y))) ?_
    refine r_ireturn (pc := 28) (ty := .int) dX11_clean_28 rfl rfl ⟨Nat.zero_le _, Nat.zero_le _⟩ (fun gE hg => ?_)
    exact hg
  · skip
    have k1 : hdB hs a = true := b2i_n0.mp c11
    refine r_iload_n (pc := 14) dX11_clean_14 rfl ?_
    refine r_iconst (pc := 15) (v := 0) dX11_clean_15 (by decide) ?_
    refine r_iconst (pc := 16) (v := 1) dX11_clean_16 (by decide) ?_
    refine r_Sp (pc := 17) (μ' := mX11_within) dX11_clean_17 nX11_84 sX11_within kX11_within rfl rfl (rr (by omega) rfl) rfl ⟨Nat.zero_le _, Nat.zero_le _⟩ (fun h => ct_G_within h) ?_
    refine r_if_ne (pc := 20) 29 dX11_clean_20 (by decide) (fun c20 => ?_) (fun c20 => ?_)
    · skip
      have k2 := b2i_n0.mp c20
      obtain ⟨i, hi, hi2⟩ := hd_t k1 hok
      refine r_aload_n (pc := 29) dX11_clean_29 rfl ?_
      refine r_getf (pc := 30) (k := 4) dX11_clean_30 hX11 eX11 (by decide) fX11_47 (fun _ q => q.1.oo) rfl ?_
      refine r_aload_n (pc := 33) dX11_clean_33 rfl ?_
      refine r_getf (pc := 34) (k := 0) dX11_clean_34 hX11 eX11 (by decide) fX11_10 (fun _ q => q.1.oo) rfl ?_
      refine r_iload_n (pc := 37) dX11_clean_37 rfl ?_
      rw [hi]
      refine r_Vv (pc := 38) (μ' := mX9_rollAll) dX11_clean_38 nX11_256 iX9_rollAll vX9_rollAll kX9_rollAll rfl rfl (rr (by omega) rfl) rfl ⟨Nat.zero_le _, Nat.zero_le _⟩ (fun g' q => rollAll_G q ok hok hi2 (fun g2 x => x)) ?_
      refine r_iconst (pc := 41) (v := 0) dX11_clean_41 (by decide) ?_
      refine r_istore_n (pc := 42) dX11_clean_42 rfl (Nat.le_of_ble_eq_true rfl) rfl ?_
      dsimp only [lset]
      obtain ⟨r1, r2, r3, r4, r5⟩ := thR_ok ok tb hok hi2
      refine aw_P (fun g' q => ?_) (L i hi hi2 k2 0 (by omega) (fun x hx => absurd hx (Nat.not_lt_zero x)))
      obtain ⟨be, sp, pl, bs, sb, sw, sx, q⟩ := q
      refine ⟨be, kHe (thR K hs i), sp, pl, bs, sb, sw, sx, r1.2.2.1, ?_⟩
      rw [show setHe (thR K hs i) (kHe (thR K hs i)) = thR K hs i from rfl]
      exact q
    · skip
      have k2 := b2i_0.mp c20
      refine r_aload_n (pc := 23) dX11_clean_23 rfl ?_
      refine r_iconst (pc := 24) (v := 1) dX11_clean_24 (by decide) ?_
      refine r_Vi (pc := 25) (μ' := mX11_error) dX11_clean_25 nX11_88 iX11_error vX11_error kX11_error rfl rfl (rr (by omega) rfl) rfl ⟨Nat.zero_le _, Nat.zero_le _⟩ (fun g' q => ct_G_error (P' := fun g2 => Q (some (.int (-1000000000 - 1))) g2) q.1 (fun g2 x y => e1 (by first | (rw [k1]; rfl) | (rw [k1, k2]; rfl)) g2 x (q.2.tr y))) ?_
      refine r_ireturn (pc := 28) (ty := .int) dX11_clean_28 rfl rfl ⟨Nat.zero_le _, Nat.zero_le _⟩ (fun gE hg => ?_)
      exact hg
set_option maxHeartbeats 8000000 in
theorem ct_G_check (q : GA o K hs lD lL tp wa z k bt sh hd er im g) (ok : KOk K) (tb : TB K 9999 9999) (hok : HOk hs) (hP : ∀ g', GA o K hs lD lL tp [] z k bt sh hd er im g' → Off o 95 g g' → Q (some (.int (nI (ckA K hs lD lL wa)))) g') : CV 12 0 0 mX11_check o [] g Q := by
  refine ⟨q.V, ?_⟩
  refine ct_of (by decide) (fun _ _ => Nat.le_of_ble_eq_true rfl) ?_
  dsimp only [pad, ent]
  have hst : 1 ≤ kSt K ∧ kSt K ≤ 6 := ok.2.1
  have hwl := q.Wa.2.1
  have hTw := nI_T (n := wa.length) (by omega)
  have hlen := hok.1
  obtain ⟨p, hp⟩ : ∃ p, p = ckP K hs lD lL wa := ⟨_, rfl⟩
  have hA : ckA K hs lD lL wa = if stopAt p wa.length = wa.length then 0 else 1 + stopAt p wa.length := by rw [hp]; rfl
  have fin : ∀ hb j : Nat, AW (fun _ => True) (rmd 12 0 0) mX11_check 0 0 104 [some (.ref o), some (.int (nI hb)), some (.int (nI (ckA K hs lD lL wa))), some (.int (nI j))] [] (fun g' => GA o K hs lD lL tp wa z k bt sh hd er im g' ∧ Off o 95 g g') Q := by
    intro hb j
    refine r_aload_n (pc := 104) dX11_check_104 rfl ?_
    refine r_getf (pc := 105) (k := 0) dX11_check_105 hX11 eX11 (by decide) fX11_10 (fun _ q => q.1.oo) rfl ?_
    refine r_getf (pc := 108) (k := 5) dX11_check_108 hX7 eX7 (by decide) fX11_358 (fun _ q => q.1.s) rfl ?_
    refine r_Vv (pc := 111) (μ' := mX5_clear) dX11_check_111 nX11_199 iX5_clear vX5_clear kX5_clear rfl rfl (rr (by omega) rfl) rfl ⟨Nat.zero_le _, Nat.zero_le _⟩ (fun g' q => ct_Row_clear (P' := fun g2 => GA o K hs lD lL tp [] z k bt sh hd er im g2 ∧ Off o 95 g g2) q.1.Wa (fun g2 x y => ⟨q.1.setWa x y, q.2.tr (y.wide (by omega) (by omega))⟩)) ?_
    refine r_iload_n (pc := 114) dX11_check_114 rfl ?_
    refine r_ireturn (pc := 115) (ty := .int) dX11_check_115 rfl rfl ⟨Nat.zero_le _, Nat.zero_le _⟩ (fun gE hg => ?_)
    exact hP _ hg.1 hg.2
  -- the loop's head once the answer is told
  have done : ∀ hb j : Nat, j ≤ wa.length → ¬ ckA K hs lD lL wa = 0 → AW (fun _ => True) (rmd 12 0 0) mX11_check 0 0 27 [some (.ref o), some (.int (nI hb)), some (.int (nI (ckA K hs lD lL wa))), some (.int (nI j))] [] (fun g' => GA o K hs lD lL tp wa z k bt sh hd er im g' ∧ Off o 95 g g') Q := by
    intro hb j hj hne
    have hA2 : ckA K hs lD lL wa ≤ 4000 := by rw [hA]; have := stopAt_le p wa.length; split <;> omega
    refine r_iload_n (pc := 27) dX11_check_27 rfl ?_
    refine r_aload_n (pc := 28) dX11_check_28 rfl ?_
    refine r_getf (pc := 29) (k := 0) dX11_check_29 hX11 eX11 (by decide) fX11_10 (fun _ q => q.1.oo) rfl ?_
    refine r_getf (pc := 32) (k := 5) dX11_check_32 hX7 eX7 (by decide) fX11_358 (fun _ q => q.1.s) rfl ?_
    refine r_Vi (pc := 35) (μ' := mX5_length) dX11_check_35 nX11_183 iX5_length vX5_length kX5_length rfl rfl (rr (by omega) rfl) rfl ⟨Nat.zero_le _, Nat.zero_le _⟩ (fun g' q => ct_Row_length q.1.Wa q) ?_
    refine r_icmp_ge (pc := 38) 104 dX11_check_38 (by decide) (fun c38 => ?_) (fun c38 => ?_)
    · skip
      exact fin hb j
    · skip
      refine r_iload_n (pc := 41) dX11_check_41 rfl ?_
      refine r_if_ne (pc := 42) 104 dX11_check_42 (by decide) (fun c42 => ?_) (fun c42 => ?_)
      · skip
        exact fin hb j
      · skip
        exact absurd c42 (fun x => by have := fa_eq.mp x; rw [nI_T hA2, t0] at this; omega)
  by_cases h0 : 0 < hs.length
  · have hh := hok.at h0
    have L : ∀ j, j ≤ wa.length → (∀ x, x < j → p x = true) → AW (fun _ => True) (rmd 12 0 0) mX11_check 0 0 27 [some (.ref o), some (.int (nI 1)), some (.int 0), some (.int (nI j))] [] (fun g' => ∃ be sp pl bs sb sw sx, GT o K hs lD lL tp wa z k bt sh hd er im be (ckN (hKd hs 0) (hMn hs 0) K j) sp pl bs sb sw sx g' ∧ Off o 95 g g') Q := by
      refine up_loop ?_ ?_
      · intro hn
        have e0 : ckA K hs lD lL wa = 0 := by rw [hA, if_pos (stopAt_all hn)]
        refine aw_ex fun be => aw_ex fun sp => aw_ex fun pl => aw_ex fun bs => aw_ex fun sb => aw_ex fun sw => aw_ex fun sx => ?_
        refine r_iload_n (pc := 27) dX11_check_27 rfl ?_
        refine r_aload_n (pc := 28) dX11_check_28 rfl ?_
        refine r_getf (pc := 29) (k := 0) dX11_check_29 hX11 eX11 (by decide) fX11_10 (fun _ q => q.1.1.oo) rfl ?_
        refine r_getf (pc := 32) (k := 5) dX11_check_32 hX7 eX7 (by decide) fX11_358 (fun _ q => q.1.1.s) rfl ?_
        refine r_Vi (pc := 35) (μ' := mX5_length) dX11_check_35 nX11_183 iX5_length vX5_length kX5_length rfl rfl (rr (by omega) rfl) rfl ⟨Nat.zero_le _, Nat.zero_le _⟩ (fun g' q => ct_Row_length q.1.1.Wa q) ?_
        refine r_icmp_ge (pc := 38) 104 dX11_check_38 (by decide) (fun c38 => ?_) (fun c38 => ?_)
        · skip
          have f := fin 1 wa.length
          rw [e0] at f
          exact aw_P (fun g' q => ⟨q.1.1, q.2⟩) f
        · skip
          exact absurd (fa_le.mpr (Int.le_refl _)) c38
      · intro j hj ih hn
        have hTj := nI_T (n := j) (by omega)
        obtain ⟨a1, a2, a3, a4, a5⟩ := ckN_ok ok tb hh.1 hh.2 j (by omega)
        obtain ⟨b1, b2, b3, b4, b5⟩ := ckN_ok ok tb hh.1 hh.2 (j + 1) (by omega)
        refine aw_ex fun be => aw_ex fun sp => aw_ex fun pl => aw_ex fun bs => aw_ex fun sb => aw_ex fun sw => aw_ex fun sx => ?_
        refine r_iload_n (pc := 27) dX11_check_27 rfl ?_
        refine r_aload_n (pc := 28) dX11_check_28 rfl ?_
        refine r_getf (pc := 29) (k := 0) dX11_check_29 hX11 eX11 (by decide) fX11_10 (fun _ q => q.1.1.oo) rfl ?_
        refine r_getf (pc := 32) (k := 5) dX11_check_32 hX7 eX7 (by decide) fX11_358 (fun _ q => q.1.1.s) rfl ?_
        refine r_Vi (pc := 35) (μ' := mX5_length) dX11_check_35 nX11_183 iX5_length vX5_length kX5_length rfl rfl (rr (by omega) rfl) rfl ⟨Nat.zero_le _, Nat.zero_le _⟩ (fun g' q => ct_Row_length q.1.1.Wa q) ?_
        refine r_icmp_ge (pc := 38) 104 dX11_check_38 (by decide) (fun c38 => ?_) (fun c38 => ?_)
        · skip
          exact absurd c38 (fun x => by have := fa_le.mp x; omega)
        · skip
          refine r_iload_n (pc := 41) dX11_check_41 rfl ?_
          refine r_if_ne (pc := 42) 104 dX11_check_42 (by decide) (fun c42 => ?_) (fun c42 => ?_)
          · skip
            exact absurd rfl c42
          · skip
            refine r_iload_n (pc := 45) dX11_check_45 rfl ?_
            refine r_if_eq (pc := 46) 62 dX11_check_46 (by decide) (fun c46 => ?_) (fun c46 => ?_)
            · skip
              exact absurd c46 (by decide)
            · skip
              refine r_aload_n (pc := 49) dX11_check_49 rfl ?_
              refine r_getf (pc := 50) (k := 4) dX11_check_50 hX11 eX11 (by decide) fX11_47 (fun _ q => q.1.1.oo) rfl ?_
              refine r_aload_n (pc := 53) dX11_check_53 rfl ?_
              refine r_getf (pc := 54) (k := 0) dX11_check_54 hX11 eX11 (by decide) fX11_10 (fun _ q => q.1.1.oo) rfl ?_
              refine r_iconst (pc := 57) (v := 0) dX11_check_57 (by decide) ?_
              refine r_iload_n (pc := 58) dX11_check_58 rfl ?_
              rw [show (0 : Int32) = nI 0 from rfl]
              refine r_Vv (pc := 59) (μ' := mX9_rollNext) dX11_check_59 nX11_364 iX9_rollNext vX9_rollNext kX9_rollNext rfl rfl (rr (by omega) rfl) rfl ⟨Nat.zero_le _, Nat.zero_le _⟩ (fun g' q => ct_Th_rollNext (P' := fun g2 => GT o K hs lD lL tp wa z k bt sh hd er im be (ckN (hKd hs 0) (hMn hs 0) K (j + 1)) sp pl bs sb sw sx g2 ∧ Off o 95 g g2) q.1.2 q.1.1.St (by omega) a1 hok h0 (by omega) (fun g2 x y => ⟨⟨q.1.1.setTh x.any y, by rw [a3] at x; exact x⟩, q.2.tr (y.wide (by omega) (by omega))⟩)) ?_
              refine r_iload_n (pc := 62) dX11_check_62 rfl ?_
              refine r_if_eq (pc := 63) 94 dX11_check_63 (by decide) (fun c63 => ?_) (fun c63 => ?_)
              · skip
                exact absurd c63 (by decide)
              · skip
                refine r_aload_n (pc := 66) dX11_check_66 rfl ?_
                refine r_getf (pc := 67) (k := 3) dX11_check_67 hX11 eX11 (by decide) fX11_38 (fun _ q => q.1.1.oo) rfl ?_
                refine r_aload_n (pc := 70) dX11_check_70 rfl ?_
                refine r_getf (pc := 71) (k := 4) dX11_check_71 hX11 eX11 (by decide) fX11_47 (fun _ q => q.1.1.oo) rfl ?_
                refine r_Vr (pc := 74) (μ' := mX9_wouldBe) dX11_check_74 nX11_368 iX9_wouldBe vX9_wouldBe kX9_wouldBe rfl rfl (rr (by omega) rfl) rfl ⟨Nat.zero_le _, Nat.zero_le _⟩ (fun g' q => ct_Th_wouldBe (P' := fun g2 => GT o K hs lD lL tp wa z k bt sh hd er im be (ckN (hKd hs 0) (hMn hs 0) K (j + 1)) sp pl bs sb sw sx g2 ∧ Off o 95 g g2) q.1.2 q) ?_
                refine r_Vi (pc := 77) (μ' := mX2_seen) dX11_check_77 nX11_232 iX2_seen vX2_seen kX2_seen rfl rfl (rr (by omega) rfl) rfl ⟨Nat.zero_le _, Nat.zero_le _⟩ (fun g' q => ct_Eye_seen (P' := fun g2 => GT o K hs lD lL tp wa z k bt sh hd er im be (ckN (hKd hs 0) (hMn hs 0) K (j + 1)) sp pl bs sb sw sx g2 ∧ Off o 95 g g2) q.1.te.ec b1 (b5.wb (by omega)) (fun g2 x y => ⟨⟨(GA_tho q.1.1 (q.1.te.on x y) (eS y)).1, (q.1.te.on x y).1⟩, q.2.tr (GA_tho q.1.1 (q.1.te.on x y) (eS y)).2⟩)) ?_
                refine r_aload_n (pc := 80) dX11_check_80 rfl ?_
                refine r_getf (pc := 81) (k := 0) dX11_check_81 hX11 eX11 (by decide) fX11_10 (fun _ q => q.1.1.oo) rfl ?_
                refine r_getf (pc := 84) (k := 5) dX11_check_84 hX7 eX7 (by decide) fX11_358 (fun _ q => q.1.1.s) rfl ?_
                refine r_iload_n (pc := 87) dX11_check_87 rfl ?_
                refine r_Vi (pc := 88) (μ' := mX5_at) dX11_check_88 nX11_322 iX5_at vX5_at kX5_at rfl rfl (rr (by omega) rfl) rfl ⟨Nat.zero_le _, Nat.zero_le _⟩ (fun g' q => ct_Row_at q.1.1.Wa q) ?_
                rw [atL_nI (show j ≤ 4000 by omega)]
                refine r_icmp_eq (pc := 91) 98 dX11_check_91 (by decide) (fun c91 => ?_) (fun c91 => ?_)
                · skip
                  have hpj : p j = true := by rw [hp]; exact decide_eq_true ⟨h0, c91⟩
                  refine r_iinc1 (pc := 98) dX11_check_98 rfl (Nat.le_of_ble_eq_true rfl) rfl ?_
                  dsimp only [lset]
                  refine r_goto (pc := 101) 27 dX11_check_101 (by decide) ?_
                  first
                  | (rw [nI_s]; exact aw_P (fun g' q => ⟨be, sp, pl, bs, sb, sw, sx, q⟩) (ih (fun x hx => by
                    by_cases c : x = j
                    · rw [c]; exact hpj
                    · exact hn x (by omega))))
                  | (have f := done 1 (j + 1) (by omega) (by omega)
                     rw [e0] at f
                     rw [nI_s]
                     exact aw_P (fun g' q => ⟨q.1.1, q.2⟩) f)
                · skip
                  have hpj : p j = false := by rw [hp]; exact decide_eq_false (fun x => c91 x.2)
                  have hsj : stopAt p wa.length = j := stopAt_eq hn hpj hj
                  have e0 : ckA K hs lD lL wa = j + 1 := by rw [hA, hsj, if_neg (by omega), Nat.add_comm]
                  refine r_iconst (pc := 94) (v := 1) dX11_check_94 (by decide) ?_
                  refine r_iload_n (pc := 95) dX11_check_95 rfl ?_
                  refine r_iadd (pc := 96) dX11_check_96 ?_
                  rw [show (1 : Int32) = nI 1 from rfl, nI_add, Nat.add_comm 1 j]
                  refine r_istore_n (pc := 97) dX11_check_97 rfl (Nat.le_of_ble_eq_true rfl) rfl ?_
                  dsimp only [lset]
                  refine r_iinc1 (pc := 98) dX11_check_98 rfl (Nat.le_of_ble_eq_true rfl) rfl ?_
                  dsimp only [lset]
                  refine r_goto (pc := 101) 27 dX11_check_101 (by decide) ?_
                  first
                  | (rw [nI_s]; exact aw_P (fun g' q => ⟨be, sp, pl, bs, sb, sw, sx, q⟩) (ih (fun x hx => by
                    by_cases c : x = j
                    · rw [c]; exact hpj
                    · exact hn x (by omega))))
                  | (have f := done 1 (j + 1) (by omega) (by omega)
                     rw [e0] at f
                     rw [nI_s]
                     exact aw_P (fun g' q => ⟨q.1.1, q.2⟩) f)
    have hb : (b2i (hdB hs 0)) = nI 1 := by rw [show hdB hs 0 = true from decide_eq_true (by rw [List.length_map, t0]; omega)]; rfl
    refine aw_P (P' := fun g' => GA o K hs lD lL tp wa z k bt sh hd er im g' ∧ Off o 95 g g') (fun g' e => by subst e; exact ⟨q, Off.rf _ _ _⟩) ?_
    refine r_aload_n (pc := 0) dX11_check_0 rfl ?_
    refine r_getf (pc := 1) (k := 0) dX11_check_1 hX11 eX11 (by decide) fX11_10 (fun _ q => q.1.oo) rfl ?_
    refine r_getf (pc := 4) (k := 1) dX11_check_4 hX7 eX7 (by decide) fX11_140 (fun _ q => q.1.s) rfl ?_
    refine r_iconst (pc := 7) (v := 0) dX11_check_7 (by decide) ?_
    refine r_Vi (pc := 8) (μ' := mX1_has) dX11_check_8 nX11_153 iX1_has vX1_has kX1_has rfl rfl (rr (by omega) rfl) rfl ⟨Nat.zero_le _, Nat.zero_le _⟩ (fun g' q => ct_Crew_has q.1.W q) ?_
    rw [show hasL (hs.map fun q => nI q.1) 0 = hdB hs 0 from rfl, hb]
    refine r_istore_n (pc := 11) dX11_check_11 rfl (Nat.le_of_ble_eq_true rfl) rfl ?_
    dsimp only [lset]
    refine r_iconst (pc := 12) (v := 0) dX11_check_12 (by decide) ?_
    refine r_istore_n (pc := 13) dX11_check_13 rfl (Nat.le_of_ble_eq_true rfl) rfl ?_
    dsimp only [lset]
    refine r_aload_n (pc := 14) dX11_check_14 rfl ?_
    refine r_getf (pc := 15) (k := 4) dX11_check_15 hX11 eX11 (by decide) fX11_47 (fun _ q => q.1.oo) rfl ?_
    refine r_aload_n (pc := 18) dX11_check_18 rfl ?_
    refine r_getf (pc := 19) (k := 0) dX11_check_19 hX11 eX11 (by decide) fX11_10 (fun _ q => q.1.oo) rfl ?_
    refine r_Vv (pc := 22) (μ' := mX9_begin) dX11_check_22 nX11_361 iX9_begin vX9_begin kX9_begin rfl rfl (rr (by omega) rfl) rfl ⟨Nat.zero_le _, Nat.zero_le _⟩ (fun g' q => ct_Th_begin (P' := fun g2 => ∃ be sp pl bs sb sw sx, GT o K hs lD lL tp wa z k bt sh hd er im be (ckN (hKd hs 0) (hMn hs 0) K 0) sp pl bs sb sw sx g2 ∧ Off o 95 g g2) q.1.Th q.1.St (by omega) (fun g2 be sp pl bs sb sw sx x y => ⟨be, sp, pl, bs, sb, sw, sx, ⟨q.1.setTh x.any y, x⟩, q.2.tr (y.wide (by omega) (by omega))⟩)) ?_
    refine r_iconst (pc := 25) (v := 0) dX11_check_25 (by decide) ?_
    refine r_istore_n (pc := 26) dX11_check_26 rfl (Nat.le_of_ble_eq_true rfl) rfl ?_
    dsimp only [lset]
    exact L 0 (Nat.zero_le _) (fun x hx => absurd hx (Nat.not_lt_zero x))
  · have hb : (b2i (hdB hs 0)) = nI 0 := by rw [show hdB hs 0 = false from decide_eq_false (by rw [List.length_map, t0]; omega)]; rfl
    have hp0 : p 0 = false := by rw [hp]; exact decide_eq_false (fun x => h0 x.1)
    have H0 : AW (fun _ => True) (rmd 12 0 0) mX11_check 0 0 27 [some (.ref o), some (.int (nI 0)), some (.int (nI 0)), some (.int (nI 0))] [] (fun g' => GA o K hs lD lL tp wa z k bt sh hd er im g' ∧ Off o 95 g g') Q := by
      refine r_iload_n (pc := 27) dX11_check_27 rfl ?_
      refine r_aload_n (pc := 28) dX11_check_28 rfl ?_
      refine r_getf (pc := 29) (k := 0) dX11_check_29 hX11 eX11 (by decide) fX11_10 (fun _ q => q.1.oo) rfl ?_
      refine r_getf (pc := 32) (k := 5) dX11_check_32 hX7 eX7 (by decide) fX11_358 (fun _ q => q.1.s) rfl ?_
      refine r_Vi (pc := 35) (μ' := mX5_length) dX11_check_35 nX11_183 iX5_length vX5_length kX5_length rfl rfl (rr (by omega) rfl) rfl ⟨Nat.zero_le _, Nat.zero_le _⟩ (fun g' q => ct_Row_length q.1.Wa q) ?_
      refine r_icmp_ge (pc := 38) 104 dX11_check_38 (by decide) (fun c38 => ?_) (fun c38 => ?_)
      · skip
        have hz : wa.length = 0 := by have := fa_le.mp c38; rw [hTw, show (nI 0).toInt = 0 from rfl] at this; omega
        have e0 : ckA K hs lD lL wa = 0 := by rw [hA, hz]; rfl
        have f := fin 0 0
        rw [e0] at f
        exact f
      · skip
        have hz : 0 < wa.length := by have : ¬ (nI wa.length).toInt ≤ (nI 0).toInt := fun x => c38 (fa_le.mpr x); rw [hTw, show (nI 0).toInt = 0 from rfl] at this; omega
        have hsj : stopAt p wa.length = 0 := stopAt_eq (fun j hj => absurd hj (Nat.not_lt_zero j)) hp0 hz
        have e0 : ckA K hs lD lL wa = 1 := by rw [hA, hsj, if_neg (by omega)]
        refine r_iload_n (pc := 41) dX11_check_41 rfl ?_
        refine r_if_ne (pc := 42) 104 dX11_check_42 (by decide) (fun c42 => ?_) (fun c42 => ?_)
        · skip
          exact absurd rfl c42
        · skip
          refine r_iload_n (pc := 45) dX11_check_45 rfl ?_
          refine r_if_eq (pc := 46) 62 dX11_check_46 (by decide) (fun c46 => ?_) (fun c46 => ?_)
          · skip
            refine r_iload_n (pc := 62) dX11_check_62 rfl ?_
            refine r_if_eq (pc := 63) 94 dX11_check_63 (by decide) (fun c63 => ?_) (fun c63 => ?_)
            · skip
              refine r_iconst (pc := 94) (v := 1) dX11_check_94 (by decide) ?_
              refine r_iload_n (pc := 95) dX11_check_95 rfl ?_
              refine r_iadd (pc := 96) dX11_check_96 ?_
              rw [show (1 : Int32) + nI 0 = nI 1 from rfl]
              refine r_istore_n (pc := 97) dX11_check_97 rfl (Nat.le_of_ble_eq_true rfl) rfl ?_
              dsimp only [lset]
              refine r_iinc1 (pc := 98) dX11_check_98 rfl (Nat.le_of_ble_eq_true rfl) rfl ?_
              dsimp only [lset]
              refine r_goto (pc := 101) 27 dX11_check_101 (by decide) ?_
              have f := done 0 1 (by omega) (by omega)
              rw [e0] at f
              exact f
            · skip
              exact absurd rfl c63
          · skip
            exact absurd rfl c46
    refine aw_P (P' := fun g' => GA o K hs lD lL tp wa z k bt sh hd er im g' ∧ Off o 95 g g') (fun g' e => by subst e; exact ⟨q, Off.rf _ _ _⟩) ?_
    refine r_aload_n (pc := 0) dX11_check_0 rfl ?_
    refine r_getf (pc := 1) (k := 0) dX11_check_1 hX11 eX11 (by decide) fX11_10 (fun _ q => q.1.oo) rfl ?_
    refine r_getf (pc := 4) (k := 1) dX11_check_4 hX7 eX7 (by decide) fX11_140 (fun _ q => q.1.s) rfl ?_
    refine r_iconst (pc := 7) (v := 0) dX11_check_7 (by decide) ?_
    refine r_Vi (pc := 8) (μ' := mX1_has) dX11_check_8 nX11_153 iX1_has vX1_has kX1_has rfl rfl (rr (by omega) rfl) rfl ⟨Nat.zero_le _, Nat.zero_le _⟩ (fun g' q => ct_Crew_has q.1.W q) ?_
    rw [show hasL (hs.map fun q => nI q.1) 0 = hdB hs 0 from rfl, hb]
    refine r_istore_n (pc := 11) dX11_check_11 rfl (Nat.le_of_ble_eq_true rfl) rfl ?_
    dsimp only [lset]
    refine r_iconst (pc := 12) (v := 0) dX11_check_12 (by decide) ?_
    refine r_istore_n (pc := 13) dX11_check_13 rfl (Nat.le_of_ble_eq_true rfl) rfl ?_
    dsimp only [lset]
    refine r_aload_n (pc := 14) dX11_check_14 rfl ?_
    refine r_getf (pc := 15) (k := 4) dX11_check_15 hX11 eX11 (by decide) fX11_47 (fun _ q => q.1.oo) rfl ?_
    refine r_aload_n (pc := 18) dX11_check_18 rfl ?_
    refine r_getf (pc := 19) (k := 0) dX11_check_19 hX11 eX11 (by decide) fX11_10 (fun _ q => q.1.oo) rfl ?_
    refine r_Vv (pc := 22) (μ' := mX9_begin) dX11_check_22 nX11_361 iX9_begin vX9_begin kX9_begin rfl rfl (rr (by omega) rfl) rfl ⟨Nat.zero_le _, Nat.zero_le _⟩ (fun g' q => ct_Th_begin (P' := fun g2 => GA o K hs lD lL tp wa z k bt sh hd er im g2 ∧ Off o 95 g g2) q.1.Th q.1.St (by omega) (fun g2 be sp pl bs sb sw sx x y => ⟨q.1.setTh x.any y, q.2.tr (y.wide (by omega) (by omega))⟩)) ?_
    refine r_iconst (pc := 25) (v := 0) dX11_check_25 (by decide) ?_
    refine r_istore_n (pc := 26) dX11_check_26 rfl (Nat.le_of_ble_eq_true rfl) rfl ?_
    dsimp only [lset]
    exact H0
end MethG
