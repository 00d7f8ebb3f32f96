/-! THE REFERENCE, whole: odds, check, whose -/
theorem awV_odd {K : CK} {hs : List (Nat × Nat)} {lD lL : List Int32} {i w n : Nat} : awV K hs lD lL i (2 * w) n = sumN (fun s => SB (thR K hs i) lD lL s s (s + 1) (w / 2 ^ s % 2 * n)) (kSt K - 1) := by
  rw [awV_sum]
  refine sumN_ext _ fun s hs' => ?_
  rw [Nat.pow_succ, Nat.mul_comm (2 ^ s) 2, Nat.mul_div_mul_left _ _ (by decide)]
theorem wyI_eq {R : CK} {lD lL : List Int32} {n w : Nat} (h6 : kSt R ≤ 6) : ∀ j, j ≤ kSt R - 1 → wyI (swL R lD lL 0 (kSt R - 1)) (swL R lD lL n (kSt R - 1)) w j = nI (sumN (fun s => SB R lD lL s s (s + 1) (w / 2 ^ s % 2 * n)) j)
  | 0 => fun _ => rfl
  | j + 1 => fun hj => by
    have e : ∀ n, atL (swL R lD lL n (kSt R - 1)) (nI (j + 1)) = nI (SB R lD lL j j (j + 1) n) := by
      intro n
      rw [atL_nI (by omega)]
      exact wpL_at (by omega) (by omega) _ (by omega)
    rw [wyI, wyI_eq h6 j (by omega), e, e, sumN]
    by_cases c : w / 2 ^ j % 2 = 1
    · rw [if_pos c, c, Nat.one_mul, nI_add]
    · rw [if_neg c, show w / 2 ^ j % 2 = 0 by omega, Nat.zero_mul, nI_add]
theorem odR_pow : ∀ j n a, j ≤ n → odR (n + 1) a (2 ^ (j + 1)) = if a % 2 = 0 then odR n (a / 2) (2 ^ j) else (a, 2 ^ (j + 1)) := by
  intro j n a h
  show (if a % 2 = 0 ∧ 2 ^ (j + 1) % 2 = 0 then odR n (a / 2) (2 ^ (j + 1) / 2) else (a, 2 ^ (j + 1))) = _
  have e1 : 2 ^ (j + 1) % 2 = 0 := by rw [Nat.pow_succ]; omega
  have e2 : 2 ^ (j + 1) / 2 = 2 ^ j := by rw [Nat.pow_succ]; omega
  rw [e2]
  by_cases c : a % 2 = 0
  · rw [if_pos c, if_pos ⟨c, e1⟩]
  · rw [if_neg c, if_neg (fun x => c x.1)]
theorem odR_1 : ∀ n a, odR n a 1 = (a, 1)
  | 0, a => rfl
  | n + 1, a => by
    show (if a % 2 = 0 ∧ 1 % 2 = 0 then _ else _) = _
    rw [if_neg (fun x => absurd x.2 (by decide))]
section Modds
variable {m : Nat} {h : AH} {K K2 : CK} {hs hs2 : List (Nat × Nat)} {tD tL tD2 tL2 : Option (List Int32)} {tp wa tp2 wa2 hd er lD lL : List Int32} {z im z2 : Int32} {k : MK} {bt : Nat → Int32} {sh : Nat → List Int32} {s s2 : Nat → Int32} {A A2 : Nat → Nat → Int32} {Q : Option Value → AH → Prop} {f : Nat → Int32}
theorem wcG_s {i n w : Nat} {v : Int32} (ok : KOk K) (hw : w < 2 ^ (kSt K - 1)) : wcN (swL (thR K hs i) lD lL 0 (kSt (thR K hs i) - 1)) (swL (thR K hs i) lD lL n (kSt (thR K hs i) - 1)) (kSt (thR K hs i)) v (w + 1) = wcN (swL (thR K hs i) lD lL 0 (kSt (thR K hs i) - 1)) (swL (thR K hs i) lD lL n (kSt (thR K hs i) - 1)) (kSt (thR K hs i)) v w + (if nI (awV K hs lD lL i (2 * w) n) ≤ v then 1 else 0) := by
  have h6 : kSt K ≤ 6 := ok.2.1.2
  have eR : kSt (thR K hs i) = kSt K := (rollsN_form _).2.1
  have e := wyI_eq (R := thR K hs i) (lD := lD) (lL := lL) (n := n) (w := w) (by omega) (kSt (thR K hs i) - 1) (Nat.le_refl _)
  rw [wcN, e, awV_odd, eR]
set_option maxHeartbeats 8000000 in
theorem cm_odds (hm : m + 14 < h.1) {a b c d : Int32} (q : MG K hs tD tL tp wa z k bt sh hd er im s A) (ok : KOk K) (tb : TB K 9999 9999) (hok : HOk hs) (hD : TR 0 tD lD) (hL : TR 1 tL lL) (e1 : (hdB hs a && wiB b 0 500 && wiB c 0 9999 && wiB d 0 1) = false → ∀ s2 A2, MG K hs tD tL tp wa z k bt sh hd (errL er 1) im s2 A2 → Q (some (.int (-1000000000 - 1))) (mh m h s2 A2)) (hP : ∀ i n, a = nI i → i < hs.length → b = nI n → n ≤ 500 → wiB c 0 9999 = true → wiB d 0 1 = true → ∀ s2 A2, MG K hs tD tL tp wa z k bt sh hd er im s2 A2 → Q (some (.int (odI (wcG (thR K hs i) lD lL n c) (kSt K) d))) (mh m h s2 A2)) : CV 50 0 0 mX12_odds m [.int a, .int b, .int c, .int d] (mh m h s A) Q := by
  refine ⟨mV hm, ?_⟩
  refine ct_of (by decide) (fun _ _ => Nat.le_of_ble_eq_true rfl) ?_
  dsimp only [pad, ent]
  have hst : 1 ≤ kSt K ∧ kSt K ≤ 6 := ok.2.1
  have hp2 := p2_le (k := kSt K - 1) (by omega)
  have hTp := nI_T (n := 2 ^ (kSt K - 1)) (by omega)
  -- in lowest terms
  have Y : ∀ i n (r : Nat × Nat), (∀ s2 A2, MG K hs tD tL tp wa z k bt sh hd er im s2 A2 → Q (some (.int (if d = 0 then nI r.1 else nI r.2))) (mh m h s2 A2)) → ∀ j, j ≤ 5 → ∀ (x : Nat) (y g : Int32) s1 A1, MG K hs tD tL tp wa z k bt sh hd er im s1 A1 → x ≤ 32 → odR (j + 1) x (2 ^ j) = r → AW (fun _ => True) (rmd 50 0 0) mX12_odds 0 0 115 [some (.ref m), some (.int (nI i)), some (.int (nI n)), some (.int c), some (.int d), some (.int g), some (.int (nI x)), some (.int (nI (2 ^ j)))] [] (MP m h s1 A1) Q := by
    intro i n r h7
    have fin : ∀ (x y : Nat) (g : Int32) s1 A1, MG K hs tD tL tp wa z k bt sh hd er im s1 A1 → (x, y) = r → AW (fun _ => True) (rmd 50 0 0) mX12_odds 0 0 143 [some (.ref m), some (.int (nI i)), some (.int (nI n)), some (.int c), some (.int d), some (.int g), some (.int (nI x)), some (.int (nI y))] [] (MP m h s1 A1) Q := by
      intro x y g s1 A1 q1 e
      rw [← e] at h7
      dsimp only at h7
      refine r_iload (pc := 143) dX12_odds_143 rfl ?_
      refine r_if_ne (pc := 145) 153 dX12_odds_145 (by decide) (fun c145 => ?_) (fun c145 => ?_)
      · skip
        rw [if_neg c145] at h7
        refine r_iload (pc := 153) dX12_odds_153 rfl ?_
        refine r_ireturn (pc := 155) (ty := .int) dX12_odds_155 rfl rfl ⟨Nat.zero_le _, Nat.zero_le _⟩ (fun gE hg => ?_)
        exact mR hg (h7 _ _ q1)
      · skip
        rw [if_pos c145] at h7
        refine r_iload (pc := 148) dX12_odds_148 rfl ?_
        refine r_goto (pc := 150) 155 dX12_odds_150 (by decide) ?_
        refine r_ireturn (pc := 155) (ty := .int) dX12_odds_155 rfl rfl ⟨Nat.zero_le _, Nat.zero_le _⟩ (fun gE hg => ?_)
        exact mR hg (h7 _ _ q1)
    intro j
    induction j with
    | zero =>
      intro _ x y g s1 A1 q1 hx e
      rw [show (2 : Nat) ^ 0 = 1 from rfl] at e ⊢
      rw [odR_1] at e
      refine r_iload (pc := 115) dX12_odds_115 rfl ?_
      refine r_iconst (pc := 117) (v := 1) dX12_odds_117 (by decide) ?_
      refine r_icmp_le (pc := 118) 143 dX12_odds_118 (by decide) (fun c118 => ?_) (fun c118 => ?_)
      · skip
        exact fin x 1 g s1 A1 q1 e
      · skip
        exact absurd (by decide) c118
    | succ j ih =>
      intro hj x y g s1 A1 q1 hx e
      have hpj := p2_le (k := j + 1) (by omega)
      have hT := nI_T (n := 2 ^ (j + 1)) (by omega)
      have hge : 2 ≤ 2 ^ (j + 1) := by rw [Nat.pow_succ]; have := Nat.one_le_two_pow (n := j); omega
      obtain ⟨x1, x2⟩ := half_is x (by omega)
      obtain ⟨y1, y2⟩ := half_is (2 ^ (j + 1)) (by omega)
      have hh : 2 ^ (j + 1) / 2 = 2 ^ j := by rw [Nat.pow_succ]; omega
      rw [odR_pow j (j + 1) x (by omega)] at e
      refine r_iload (pc := 115) dX12_odds_115 rfl ?_
      refine r_iconst (pc := 117) (v := 1) dX12_odds_117 (by decide) ?_
      refine r_icmp_le (pc := 118) 143 dX12_odds_118 (by decide) (fun c118 => ?_) (fun c118 => ?_)
      · skip
        exact absurd c118 (fun z => by have := fa_le.mp z; rw [hT, t1] at this; omega)
      · skip
        refine r_iload (pc := 121) dX12_odds_121 rfl ?_
        refine r_iconst (pc := 123) (v := 2) dX12_odds_123 (by decide) ?_
        refine r_irem' (pc := 124) dX12_odds_124 (by decide) ?_
        rw [x1]
        refine r_if_ne (pc := 125) 143 dX12_odds_125 (by decide) (fun c125 => ?_) (fun c125 => ?_)
        · skip
          have k1 : ¬ x % 2 = 0 := fun z => c125 (by rw [z]; rfl)
          rw [if_neg k1] at e
          exact fin x _ g s1 A1 q1 e
        · skip
          have k1 : x % 2 = 0 := by have := fa_eq.mp c125; rw [nI_T (by omega), t0] at this; omega
          rw [if_pos k1] at e
          refine r_iload (pc := 128) dX12_odds_128 rfl ?_
          refine r_iconst (pc := 130) (v := 2) dX12_odds_130 (by decide) ?_
          refine r_idiv (pc := 131) dX12_odds_131 (by decide) ?_
          rw [x2]
          refine r_istore (pc := 132) dX12_odds_132 (Nat.le_of_ble_eq_true rfl) rfl ?_
          dsimp only [lset]
          refine r_iload (pc := 134) dX12_odds_134 rfl ?_
          refine r_iconst (pc := 136) (v := 2) dX12_odds_136 (by decide) ?_
          refine r_idiv (pc := 137) dX12_odds_137 (by decide) ?_
          rw [y2, hh]
          refine r_istore (pc := 138) dX12_odds_138 (Nat.le_of_ble_eq_true rfl) rfl ?_
          dsimp only [lset]
          refine r_goto (pc := 140) 115 dX12_odds_140 (by decide) ?_
          exact ih (by omega) (x / 2) 0 g s1 A1 q1 (by omega) e
  have L : ∀ i n, a = nI i → i < hs.length → b = nI n → n ≤ 500 → wiB c 0 9999 = true → wiB d 0 1 = true → ∀ w, w ≤ 2 ^ (kSt K - 1) → ∀ s1 A1, MG K hs tD tL tp wa z k bt sh hd er im s1 A1 → AW (fun _ => True) (rmd 50 0 0) mX12_odds 0 0 65 [some (.ref m), some (.int (nI i)), some (.int (nI n)), some (.int c), some (.int d), some (.int (nI (2 ^ (kSt K - 1)))), some (.int (nI (wcN (swL (thR K hs i) lD lL 0 (kSt (thR K hs i) - 1)) (swL (thR K hs i) lD lL n (kSt (thR K hs i) - 1)) (kSt (thR K hs i)) c w))), some (.int (nI w))] [] (MP m h s1 A1) Q := by
    intro i n hi hi2 hb hn hc hd
    have h7 := hP i n hi hi2 hb hn hc hd
    have okR := (thR_ok ok tb hok hi2).1
    have eR : kSt (thR K hs i) = kSt K := (rollsN_form _).2.1
    refine up_loop ?_ ?_
    · intro s1 A1 q1
      obtain ⟨w, hw⟩ : ∃ w, w = wcN (swL (thR K hs i) lD lL 0 (kSt (thR K hs i) - 1)) (swL (thR K hs i) lD lL n (kSt (thR K hs i) - 1)) (kSt (thR K hs i)) c (2 ^ (kSt K - 1)) := ⟨_, rfl⟩
      have ew : wcG (thR K hs i) lD lL n c = w := by rw [hw]; unfold wcG; rw [eR]
      rw [ew] at h7
      have hw32 : w ≤ 2 ^ (kSt K - 1) := by rw [hw]; exact wcN_le _
      rw [← hw]
      unfold odI at h7
      refine r_iload (pc := 65) dX12_odds_65 rfl ?_
      refine r_iload (pc := 67) dX12_odds_67 rfl ?_
      refine r_icmp_ge (pc := 69) 102 dX12_odds_69 (by decide) (fun c69 => ?_) (fun c69 => ?_)
      · skip
        refine r_iload (pc := 102) dX12_odds_102 rfl ?_
        refine r_if_ne (pc := 104) 111 dX12_odds_104 (by decide) (fun c104 => ?_) (fun c104 => ?_)
        · skip
          have k1 : ¬ w = 0 := fun z => c104 (by rw [z]; rfl)
          rw [if_neg k1] at h7
          refine r_iload (pc := 111) dX12_odds_111 rfl ?_
          refine r_istore (pc := 113) dX12_odds_113 (Nat.le_of_ble_eq_true rfl) rfl ?_
          dsimp only [lset]
          first
          | exact Y i n _ h7 (kSt K - 1) (by omega) w 0 _ s1 A1 q1 (by omega) (by
            have e6 : ∀ j a, j ≤ 5 → odR 6 a (2 ^ j) = odR (j + 1) a (2 ^ j) := by
              intro j
              have g : ∀ j n a, j + 1 ≤ n → odR n a (2 ^ j) = odR (j + 1) a (2 ^ j) := by
                intro j
                induction j with
                | zero => intro n a _; rw [show (2 : Nat) ^ 0 = 1 from rfl, odR_1, odR_1]
                | succ j ih =>
                  intro n a hn
                  obtain ⟨n, rfl⟩ : ∃ x, n = x + 1 := ⟨n - 1, by omega⟩
                  rw [odR_pow j n a (by omega), odR_pow j (j + 1) a (by omega), ih n (a / 2) (by omega)]
              intro a hj
              exact g j 6 a (by omega)
            exact (e6 _ _ (by omega)).symm)
          | (rw [k1]
             refine Y i n (0, 1) (fun s2 A2 q2 => ?_) 0 (by omega) 0 0 _ s1 A1 q1 (by omega) (odR_1 _ _)
             have h8 := h7 s2 A2 q2
             by_cases c0 : d = 0
             · rw [if_pos c0]
               rw [c0] at h8
               exact h8
             · rw [if_neg c0]
               rw [kd_2 hd c0] at h8
               exact h8)
        · skip
          have k1 : w = 0 := by have := fa_eq.mp c104; rw [nI_T (by omega), t0] at this; omega
          rw [if_pos k1] at h7
          refine r_iconst (pc := 107) (v := 1) dX12_odds_107 (by decide) ?_
          refine r_goto (pc := 108) 113 dX12_odds_108 (by decide) ?_
          refine r_istore (pc := 113) dX12_odds_113 (Nat.le_of_ble_eq_true rfl) rfl ?_
          dsimp only [lset]
          first
          | exact Y i n _ h7 (kSt K - 1) (by omega) w 0 _ s1 A1 q1 (by omega) (by
            have e6 : ∀ j a, j ≤ 5 → odR 6 a (2 ^ j) = odR (j + 1) a (2 ^ j) := by
              intro j
              have g : ∀ j n a, j + 1 ≤ n → odR n a (2 ^ j) = odR (j + 1) a (2 ^ j) := by
                intro j
                induction j with
                | zero => intro n a _; rw [show (2 : Nat) ^ 0 = 1 from rfl, odR_1, odR_1]
                | succ j ih =>
                  intro n a hn
                  obtain ⟨n, rfl⟩ : ∃ x, n = x + 1 := ⟨n - 1, by omega⟩
                  rw [odR_pow j n a (by omega), odR_pow j (j + 1) a (by omega), ih n (a / 2) (by omega)]
              intro a hj
              exact g j 6 a (by omega)
            exact (e6 _ _ (by omega)).symm)
          | (rw [k1]
             refine Y i n (0, 1) (fun s2 A2 q2 => ?_) 0 (by omega) 0 0 _ s1 A1 q1 (by omega) (odR_1 _ _)
             have h8 := h7 s2 A2 q2
             by_cases c0 : d = 0
             · rw [if_pos c0]
               rw [c0] at h8
               exact h8
             · rw [if_neg c0]
               rw [kd_2 hd c0] at h8
               exact h8)
      · skip
        exact absurd (fa_le.mpr (Int.le_refl _)) c69
    · intro w hw ih s1 A1 q1
      have hT := nI_T (n := w) (by omega)
      have ew := wcG_s (hs := hs) (lD := lD) (lL := lL) (i := i) (n := n) (v := c) ok hw
      rw [ew] at ih
      have h2w : (2 : Int32) * nI w = nI (2 * w) := pk_mul 2 w
      refine r_iload (pc := 65) dX12_odds_65 rfl ?_
      refine r_iload (pc := 67) dX12_odds_67 rfl ?_
      refine r_icmp_ge (pc := 69) 102 dX12_odds_69 (by decide) (fun c69 => ?_) (fun c69 => ?_)
      · skip
        exact absurd c69 (fun y => by have := fa_le.mp y; omega)
      · skip
        refine r_iload (pc := 72) dX12_odds_72 rfl ?_
        refine r_aload_n (pc := 74) dX12_odds_74 rfl ?_
        refine r_iload_n (pc := 75) dX12_odds_75 rfl ?_
        refine r_iconst (pc := 76) (v := 2) dX12_odds_76 (by decide) ?_
        refine r_iload (pc := 77) dX12_odds_77 rfl ?_
        refine r_imul (pc := 79) dX12_odds_79 ?_
        rw [h2w]
        refine r_iload_n (pc := 80) dX12_odds_80 rfl ?_
        refine r_Vi (pc := 81) (μ' := mX12_seenAway) dX12_odds_81 nX12_237 iX12_seenAway vX12_seenAway kX12_seenAway rfl rfl (rr (by omega) rfl) rfl ⟨Nat.zero_le _, Nat.zero_le _⟩ (fun _ q_ => cvq q_ (ct_M_seenAway hm q1 ok tb hok hD hL hi2 (by omega) hn)) ?_
        refine aw_ex fun s4 => aw_ex fun A4 => aw_pr fun q4 => ?_
        refine r_iload_n (pc := 84) dX12_odds_84 rfl ?_
        refine r_icmp_gt (pc := 85) 92 dX12_odds_85 (by decide) (fun c85 => ?_) (fun c85 => ?_)
        · skip
          have k1 : ¬ nI (awV K hs lD lL i (2 * w) n) ≤ c := fun y => by have h1 := fa_le.mp y; have h2 := fa_lt.mp c85; omega
          rw [if_neg k1] at ih
          refine r_iconst (pc := 92) (v := 0) dX12_odds_92 (by decide) ?_
          refine r_iadd (pc := 93) dX12_odds_93 ?_
          refine r_istore (pc := 94) dX12_odds_94 (Nat.le_of_ble_eq_true rfl) rfl ?_
          dsimp only [lset]
          refine r_iinc1 (pc := 96) dX12_odds_96 rfl (Nat.le_of_ble_eq_true rfl) rfl ?_
          dsimp only [lset]
          refine r_goto (pc := 99) 65 dX12_odds_99 (by decide) ?_
          rw [nI_1]
          first
          | (rw [show (1 : Int32) = nI 1 from rfl, nI_add]; exact ih s4 A4 q4)
          | (rw [show (0 : Int32) = nI 0 from rfl, nI_add]; exact ih s4 A4 q4)
        · skip
          have k1 : nI (awV K hs lD lL i (2 * w) n) ≤ c := fa_le.mpr (by have : ¬ c.toInt < (nI (awV K hs lD lL i (2 * w) n)).toInt := fun y => c85 (fa_lt.mpr y); omega)
          rw [if_pos k1] at ih
          refine r_iconst (pc := 88) (v := 1) dX12_odds_88 (by decide) ?_
          refine r_goto (pc := 89) 93 dX12_odds_89 (by decide) ?_
          refine r_iadd (pc := 93) dX12_odds_93 ?_
          refine r_istore (pc := 94) dX12_odds_94 (Nat.le_of_ble_eq_true rfl) rfl ?_
          dsimp only [lset]
          refine r_iinc1 (pc := 96) dX12_odds_96 rfl (Nat.le_of_ble_eq_true rfl) rfl ?_
          dsimp only [lset]
          refine r_goto (pc := 99) 65 dX12_odds_99 (by decide) ?_
          rw [nI_1]
          first
          | (rw [show (1 : Int32) = nI 1 from rfl, nI_add]; exact ih s4 A4 q4)
          | (rw [show (0 : Int32) = nI 0 from rfl, nI_add]; exact ih s4 A4 q4)
  refine aw_P (P' := MP m h s A) (fun _ q => q) ?_
  refine r_aload_n (pc := 0) dX12_odds_0 rfl ?_
  refine r_iload_n (pc := 1) dX12_odds_1 rfl ?_
  refine r_Vi (pc := 2) (μ' := mX12_isHand) dX12_odds_2 nX12_98 iX12_isHand vX12_isHand kX12_isHand rfl rfl (rr (by omega) rfl) rfl ⟨Nat.zero_le _, Nat.zero_le _⟩ (fun _ q_ => cvq q_ (ct_M_isHand hm)) ?_
  rw [q.hb]
  refine r_if_eq (pc := 5) 40 dX12_odds_5 (by decide) (fun c5 => ?_) (fun c5 => ?_)
  · skip
    have k1 := b2i_0.mp c5
    refine r_aload_n (pc := 40) dX12_odds_40 rfl ?_
    refine r_ldc (pc := 41) (v := (-1000000001)) dX12_odds_41 qX12_61 ?_
    refine r_Vi (pc := 43) (μ' := mX12_errs) dX12_odds_43 nX12_62 iX12_errs vX12_errs kX12_errs rfl rfl (rr (by omega) rfl) rfl ⟨Nat.zero_le _, Nat.zero_le _⟩ (fun _ q_ => cvq q_ (ct_M_errs hm 1 (by decide) (by decide))) ?_
    rw [show (-1000000001 : Int32) = -1000000000 - 1 from rfl]
    refine r_ireturn (pc := 46) (ty := .int) dX12_odds_46 rfl rfl ⟨Nat.zero_le _, Nat.zero_le _⟩ (fun gE hg => ?_)
    exact mR hg (e1 (by first | (rw [k1]; rfl) | (rw [k1, k2]; rfl) | (rw [k1, k2, k3]; rfl) | (rw [k1, k2, k3, k4]; rfl)) _ _ (q.err (by decide) rfl))
  · skip
    have k1 := b2i_n0.mp c5
    refine r_iload_n (pc := 8) dX12_odds_8 rfl ?_
    refine r_iconst (pc := 9) (v := 0) dX12_odds_9 (by decide) ?_
    refine r_sipush (pc := 10) (v := 500) dX12_odds_10 (by decide) ?_
    refine r_Sp (pc := 13) (μ' := mX12_in) dX12_odds_13 nX12_57 sX12_in kX12_in rfl rfl (rr (by omega) rfl) rfl ⟨Nat.zero_le _, Nat.zero_le _⟩ (fun h => ct_M_in h) ?_
    refine r_if_eq (pc := 16) 40 dX12_odds_16 (by decide) (fun c16 => ?_) (fun c16 => ?_)
    · skip
      have k2 := b2i_0.mp c16
      refine r_aload_n (pc := 40) dX12_odds_40 rfl ?_
      refine r_ldc (pc := 41) (v := (-1000000001)) dX12_odds_41 qX12_61 ?_
      refine r_Vi (pc := 43) (μ' := mX12_errs) dX12_odds_43 nX12_62 iX12_errs vX12_errs kX12_errs rfl rfl (rr (by omega) rfl) rfl ⟨Nat.zero_le _, Nat.zero_le _⟩ (fun _ q_ => cvq q_ (ct_M_errs hm 1 (by decide) (by decide))) ?_
      rw [show (-1000000001 : Int32) = -1000000000 - 1 from rfl]
      refine r_ireturn (pc := 46) (ty := .int) dX12_odds_46 rfl rfl ⟨Nat.zero_le _, Nat.zero_le _⟩ (fun gE hg => ?_)
      exact mR hg (e1 (by first | (rw [k1]; rfl) | (rw [k1, k2]; rfl) | (rw [k1, k2, k3]; rfl) | (rw [k1, k2, k3, k4]; rfl)) _ _ (q.err (by decide) rfl))
    · skip
      have k2 := b2i_n0.mp c16
      refine r_iload_n (pc := 19) dX12_odds_19 rfl ?_
      refine r_iconst (pc := 20) (v := 0) dX12_odds_20 (by decide) ?_
      refine r_sipush (pc := 21) (v := 9999) dX12_odds_21 (by decide) ?_
      refine r_Sp (pc := 24) (μ' := mX12_in) dX12_odds_24 nX12_57 sX12_in kX12_in rfl rfl (rr (by omega) rfl) rfl ⟨Nat.zero_le _, Nat.zero_le _⟩ (fun h => ct_M_in h) ?_
      refine r_if_eq (pc := 27) 40 dX12_odds_27 (by decide) (fun c27 => ?_) (fun c27 => ?_)
      · skip
        have k3 := b2i_0.mp c27
        refine r_aload_n (pc := 40) dX12_odds_40 rfl ?_
        refine r_ldc (pc := 41) (v := (-1000000001)) dX12_odds_41 qX12_61 ?_
        refine r_Vi (pc := 43) (μ' := mX12_errs) dX12_odds_43 nX12_62 iX12_errs vX12_errs kX12_errs rfl rfl (rr (by omega) rfl) rfl ⟨Nat.zero_le _, Nat.zero_le _⟩ (fun _ q_ => cvq q_ (ct_M_errs hm 1 (by decide) (by decide))) ?_
        rw [show (-1000000001 : Int32) = -1000000000 - 1 from rfl]
        refine r_ireturn (pc := 46) (ty := .int) dX12_odds_46 rfl rfl ⟨Nat.zero_le _, Nat.zero_le _⟩ (fun gE hg => ?_)
        exact mR hg (e1 (by first | (rw [k1]; rfl) | (rw [k1, k2]; rfl) | (rw [k1, k2, k3]; rfl) | (rw [k1, k2, k3, k4]; rfl)) _ _ (q.err (by decide) rfl))
      · skip
        have k3 := b2i_n0.mp c27
        refine r_iload (pc := 30) dX12_odds_30 rfl ?_
        refine r_iconst (pc := 32) (v := 0) dX12_odds_32 (by decide) ?_
        refine r_iconst (pc := 33) (v := 1) dX12_odds_33 (by decide) ?_
        refine r_Sp (pc := 34) (μ' := mX12_in) dX12_odds_34 nX12_57 sX12_in kX12_in rfl rfl (rr (by omega) rfl) rfl ⟨Nat.zero_le _, Nat.zero_le _⟩ (fun h => ct_M_in h) ?_
        refine r_if_ne (pc := 37) 47 dX12_odds_37 (by decide) (fun c37 => ?_) (fun c37 => ?_)
        · skip
          have k4 := b2i_n0.mp c37
          obtain ⟨i, hi, hi2⟩ := hd_t k1 hok
          obtain ⟨n, hn, hn2⟩ := wi_nat k2 (by decide)
          have hn3 : n ≤ 500 := by rw [show (500 : Int32).toInt = 500 from rfl] at hn2; omega
          refine r_iconst (pc := 47) (v := 1) dX12_odds_47 (by decide) ?_
          refine r_aload_n (pc := 48) dX12_odds_48 rfl ?_
          refine r_getf (pc := 49) (k := 0) dX12_odds_49 hX12 eX12 (by decide) fX12_7 (fun _ q => mo hm q) rfl ?_
          refine r_iconst (pc := 52) (v := 1) dX12_odds_52 (by decide) ?_
          refine r_ml (pc := 53) (i := 0) (j := 1) hm dX12_odds_53 (by decide) rfl (by decide) ?_
          rw [q.rk.2.1]
          refine r_iconst (pc := 54) (v := 1) dX12_odds_54 (by decide) ?_
          rw [show (1 : Int32) = nI 1 from rfl]
          refine r_isub (pc := 55) dX12_odds_55 ?_
          rw [nI_sub' (by omega)]
          refine r_ishl (pc := 56) dX12_odds_56 ?_
          rw [show nI 1 <<< (nI (kSt K - 1) &&& 31) = nI (2 ^ (kSt K - 1)) from shl_is _ (by omega)]
          refine r_istore (pc := 57) dX12_odds_57 (Nat.le_of_ble_eq_true rfl) rfl ?_
          dsimp only [lset]
          refine r_iconst (pc := 59) (v := 0) dX12_odds_59 (by decide) ?_
          refine r_istore (pc := 60) dX12_odds_60 (Nat.le_of_ble_eq_true rfl) rfl ?_
          dsimp only [lset]
          refine r_iconst (pc := 62) (v := 0) dX12_odds_62 (by decide) ?_
          refine r_istore (pc := 63) dX12_odds_63 (Nat.le_of_ble_eq_true rfl) rfl ?_
          dsimp only [lset]
          rw [hi, hn]
          exact L i n hi hi2 hn hn3 k3 k4 0 (Nat.zero_le _) s A q
        · skip
          have k4 := b2i_0.mp c37
          refine r_aload_n (pc := 40) dX12_odds_40 rfl ?_
          refine r_ldc (pc := 41) (v := (-1000000001)) dX12_odds_41 qX12_61 ?_
          refine r_Vi (pc := 43) (μ' := mX12_errs) dX12_odds_43 nX12_62 iX12_errs vX12_errs kX12_errs rfl rfl (rr (by omega) rfl) rfl ⟨Nat.zero_le _, Nat.zero_le _⟩ (fun _ q_ => cvq q_ (ct_M_errs hm 1 (by decide) (by decide))) ?_
          rw [show (-1000000001 : Int32) = -1000000000 - 1 from rfl]
          refine r_ireturn (pc := 46) (ty := .int) dX12_odds_46 rfl rfl ⟨Nat.zero_le _, Nat.zero_le _⟩ (fun gE hg => ?_)
          exact mR hg (e1 (by first | (rw [k1]; rfl) | (rw [k1, k2]; rfl) | (rw [k1, k2, k3]; rfl) | (rw [k1, k2, k3, k4]; rfl)) _ _ (q.err (by decide) rfl))
theorem RMr_w0 {f f2 : Nat → Int32} (q : RMr hs tD tL tp wa z f) (h10 : f2 10 = 0) (ho : ∀ j, j ≠ 10 → j < 267 → f2 j = f j) : RMr hs tD tL tp [] z f2 :=
  RMr_wa q ⟨⟨h10, fun j hj => absurd hj (Nat.not_lt_zero j)⟩, Nat.zero_le _⟩ (fun j hj h1 h2 => ho j h1 (by unfold RJ at hj; omega))
set_option maxHeartbeats 8000000 in
theorem cm_check (hm : m + 14 < h.1) (q : MG K hs tD tL tp wa z k bt sh hd er im s A) (ok : KOk K) (tb : TB K 9999 9999) (hok : HOk hs) (hD : TR 0 tD lD) (hL : TR 1 tL lL) (hP : ∀ s2 A2, MG K hs tD tL tp [] z k bt sh hd er im s2 A2 → Q (some (.int (nI (ckA K hs lD lL wa)))) (mh m h s2 A2)) : CV 50 0 0 mX12_check m [] (mh m h s A) Q := by
  refine ⟨mV hm, ?_⟩
  refine ct_of (by decide) (fun _ _ => Nat.le_of_ble_eq_true rfl) ?_
  dsimp only [pad, ent]
  have hst : 1 ≤ kSt K ∧ kSt K ≤ 6 := ok.2.1
  have hlen := hok.1
  have hTh := nI_T (n := hs.length) (by omega)
  obtain ⟨w10, w147⟩ := q.rr.2.2.2.2.2.1
  have hwl := q.rr.2.2.2.2.2.2
  have hTw := nI_T (n := wa.length) (by omega)
  have r8 := q.rr.2.1.1.1
  obtain ⟨p, hp⟩ : ∃ p, p = ckP K hs lD lL wa := ⟨_, rfl⟩
  have hA : ckA K hs lD lL wa = if stopAt p wa.length = wa.length then 0 else 1 + stopAt p wa.length := by rw [hp]; rfl
  obtain ⟨T, hT⟩ : ∃ T : Nat → Int32, T = mvF (upd (A 0) 10 0) (A 2) := ⟨_, rfl⟩
  have hT0 : ∀ y, y < 267 → T y = if y = 10 then 0 else A 0 y := by
    intro y hy
    rw [hT]
    show (if y < 267 then upd (A 0) 10 0 y else A 2 y) = _
    rw [if_pos hy]
    rfl
  have rk0 : RMk (noCan K) (upd (A 0) 10 0) := RMk_can (q.rk.ext2 ok fun j hj => upd_n (by omega))
  -- the end: all is put back
  have fin : ∀ (k0 : Int32) (x : Nat) (b : Bool) s1 A1, (s1 4 = s 4 ∧ s1 5 = s 5 ∧ s1 9 = s 9 ∧ s1 26 = s 26) → (∀ i, (i = 1 ∨ i = 4 ∨ i = 7 ∨ i = 8 ∨ i = 9 ∨ i = 13) → A1 i = A i) → A1 2 = T → ckA K hs lD lL wa = (if b then 0 else 1 + x) → AW (fun _ => True) (rmd 50 0 0) mX12_check 0 0 113 [some (.ref m), some (.int k0), some (.int (nI x)), some (.int (b2i b))] [] (MP m h s1 A1) Q := by
    intro k0 x b s1 A1 hs4 h1 h2 hc
    rw [hc] at hP
    have h9 : ∀ y, y < 267 → mvF (A1 2) (A1 0) y = T y := fun y hy => (if_pos hy).trans (by rw [h2])
    have qf : MG K hs tD tL tp [] z k bt sh hd er im s1 (upA A1 0 (mvF (A1 2) (A1 0))) := q.to hs4 (fun i hi => (upA_n (by omega)).trans (h1 i hi)) (q.rk.ext2 ok fun j hj => by rw [upA_s, h9 j (by omega), hT0 j (by omega), if_neg (by omega)]) (by
      rw [upA_s]
      refine RMr_w0 q.rr (by rw [h9 10 (by omega), hT0 10 (by omega), if_pos rfl]) (fun j h1 h2 => by rw [h9 j h2, hT0 j h2, if_neg h1]))
    refine r_aload_n (pc := 113) dX12_check_113 rfl ?_
    refine r_aload_n (pc := 114) dX12_check_114 rfl ?_
    refine r_getf (pc := 115) (k := 2) dX12_check_115 hX12 eX12 (by decide) fX12_16 (fun _ q => mo hm q) rfl ?_
    refine r_aload_n (pc := 118) dX12_check_118 rfl ?_
    refine r_getf (pc := 119) (k := 0) dX12_check_119 hX12 eX12 (by decide) fX12_7 (fun _ q => mo hm q) rfl ?_
    refine r_Vv (pc := 122) (μ' := mX12_moveAll) dX12_check_122 nX12_188 iX12_moveAll vX12_moveAll kX12_moveAll rfl rfl (rr (by decide) rfl) rfl ⟨Nat.zero_le _, Nat.zero_le _⟩ (fun _ q_ => cvq q_ (ct_M_moveAll hm 2 0 (by decide) (by decide) (by decide))) ?_
    refine r_iload_n (pc := 125) dX12_check_125 rfl ?_
    refine r_if_eq (pc := 126) 133 dX12_check_126 (by decide) (fun c126 => ?_) (fun c126 => ?_)
    · skip
      have hb : b = false := b2i_0.mp c126
      rw [hb] at hP
      refine r_iconst (pc := 133) (v := 1) dX12_check_133 (by decide) ?_
      refine r_iload_n (pc := 134) dX12_check_134 rfl ?_
      refine r_iadd (pc := 135) dX12_check_135 ?_
      refine r_ireturn (pc := 136) (ty := .int) dX12_check_136 rfl rfl ⟨Nat.zero_le _, Nat.zero_le _⟩ (fun gE hg => ?_)
      first
      | exact mR hg (hP _ _ qf)
      | exact mR hg (by rw [show (1 : Int32) + nI x = nI (1 + x) from nI_add 1 x]; exact hP _ _ qf)
    · skip
      have hb : b = true := b2i_n0.mp c126
      rw [hb] at hP
      refine r_iconst (pc := 129) (v := 0) dX12_check_129 (by decide) ?_
      refine r_goto (pc := 130) 136 dX12_check_130 (by decide) ?_
      refine r_ireturn (pc := 136) (ty := .int) dX12_check_136 rfl rfl ⟨Nat.zero_le _, Nat.zero_le _⟩ (fun gE hg => ?_)
      first
      | exact mR hg (hP _ _ qf)
      | exact mR hg (by rw [show (1 : Int32) + nI x = nI (1 + x) from nI_add 1 x]; exact hP _ _ qf)
  by_cases h0 : 0 < hs.length
  · have hh := hok.at h0
    have L : ∀ j, j ≤ wa.length → (∀ x, x < j → p x = true) → ∀ s1 A1, RMk (ckN (hKd hs 0) (hMn hs 0) K j) (A1 0) → (∀ y, RJ y → y ≠ 10 → A1 0 y = A 0 y) → (s1 4 = s 4 ∧ s1 5 = s 5 ∧ s1 9 = s 9 ∧ s1 26 = s 26) → (∀ i, (i = 1 ∨ i = 4 ∨ i = 7 ∨ i = 8 ∨ i = 9 ∨ i = 13) → A1 i = A i) → A1 2 = T → AW (fun _ => True) (rmd 50 0 0) mX12_check 0 0 32 [some (.ref m), some (.int (nI wa.length)), some (.int (nI j)), some (.int (b2i true))] [] (MP m h s1 A1) Q := by
      refine up_loop ?_ ?_
      · intro hn s1 A1 q1 q2 q3 q4 q5
        refine r_iload_n (pc := 32) dX12_check_32 rfl ?_
        refine r_iload_n (pc := 33) dX12_check_33 rfl ?_
        refine r_icmp_ge (pc := 34) 113 dX12_check_34 (by decide) (fun c34 => ?_) (fun c34 => ?_)
        · skip
          exact fin _ wa.length true s1 A1 q3 q4 q5 (by rw [hA, if_pos (stopAt_all hn)]; rfl)
        · skip
          exact absurd (fa_le.mpr (Int.le_refl _)) c34
      · intro j hj ih hn s1 A1 q1 q2 q3 q4 qT
        have hTj := nI_T (n := j) (by omega)
        obtain ⟨a1, a2, a3, a4, a5⟩ := ckN_ok ok tb hh.1 hh.2 j (by omega)
        obtain ⟨b1, b2, b3, b4, b5⟩ := ckN_ok ok tb hh.1 hh.2 (j + 1) (by omega)
        have hmod : j % kSt K < kSt K := Nat.mod_lt _ (by omega)
        have hne : ¬ nI (kSt K) = 0 := nI_ne0 (by omega) (by omega)
        have e8 : A1 0 8 = nI hs.length := (q2 8 (by unfold RJ; omega) (by omega)).trans r8
        have rh : RMh hs (A1 0) := ⟨e8, fun i hi => ⟨(q2 _ (by unfold RJ; omega) (by omega)).trans (q.rr.2.1.1.2 i hi).1, (q2 _ (by unfold RJ; omega) (by omega)).trans (q.rr.2.1.1.2 i hi).2⟩⟩
        have txD : ∀ f : Nat → Int32, (∀ y, RJ y → y ≠ 10 → f y = A 0 y) → TxM tD (f 11) 167 f ∧ TxM tL (f 12) 217 f := by
          intro f hf
          constructor
          · rw [hf 11 (by unfold RJ; omega) (by omega)]; exact q.rr.2.2.1.ext fun j hj => hf _ (by unfold RJ; omega) (by omega)
          · rw [hf 12 (by unfold RJ; omega) (by omega)]; exact q.rr.2.2.2.1.ext fun j hj => hf _ (by unfold RJ; omega) (by omega)
        have ct := ct_M_rollsBy (h := h) (A := A1) (f := A1 0) (s := s1) (sx := j % kSt K) (up := false) hm h0 hok rh (show j % kSt K < kSt (ckN (hKd hs 0) (hMn hs 0) K j) by rw [a3]; exact hmod) a1 q1 (s18_any s1 _)
        rw [upA_id] at ct
        refine r_iload_n (pc := 32) dX12_check_32 rfl ?_
        refine r_iload_n (pc := 33) dX12_check_33 rfl ?_
        refine r_icmp_ge (pc := 34) 113 dX12_check_34 (by decide) (fun c34 => ?_) (fun c34 => ?_)
        · skip
          exact absurd c34 (fun y => by have := fa_le.mp y; omega)
        · skip
          refine r_iload_n (pc := 37) dX12_check_37 rfl ?_
          refine r_if_eq (pc := 38) 113 dX12_check_38 (by decide) (fun c38 => ?_) (fun c38 => ?_)
          · skip
            exact absurd c38 (by decide)
          · skip
            refine r_aload_n (pc := 41) dX12_check_41 rfl ?_
            refine r_getf (pc := 42) (k := 0) dX12_check_42 hX12 eX12 (by decide) fX12_7 (fun _ q => mo hm q) rfl ?_
            refine r_bipush (pc := 45) (v := 8) dX12_check_45 (by decide) ?_
            refine r_ml (pc := 47) (i := 0) (j := 8) hm dX12_check_47 (by decide) rfl (by decide) ?_
            rw [e8]
            refine r_if_le (pc := 48) 55 dX12_check_48 (by decide) (fun c48 => ?_) (fun c48 => ?_)
            · skip
              exact absurd c48 (fun y => by have := fa_le.mp y; rw [hTh, t0] at this; omega)
            · skip
              refine r_iconst (pc := 51) (v := 1) dX12_check_51 (by decide) ?_
              refine r_goto (pc := 52) 56 dX12_check_52 (by decide) ?_
              refine r_istore_n (pc := 56) dX12_check_56 rfl (Nat.le_of_ble_eq_true rfl) rfl ?_
              dsimp only [lset]
              refine r_iload_n (pc := 57) dX12_check_57 rfl ?_
              refine r_if_eq (pc := 58) 98 dX12_check_58 (by decide) (fun c58 => ?_) (fun c58 => ?_)
              · skip
                exact absurd c58 (by decide)
              · skip
                refine r_aload_n (pc := 61) dX12_check_61 rfl ?_
                refine r_iconst (pc := 62) (v := 0) dX12_check_62 (by decide) ?_
                refine r_iload_n (pc := 63) dX12_check_63 rfl ?_
                refine r_aload_n (pc := 64) dX12_check_64 rfl ?_
                refine r_getf (pc := 65) (k := 0) dX12_check_65 hX12 eX12 (by decide) fX12_7 (fun _ q => mo hm q) rfl ?_
                refine r_iconst (pc := 68) (v := 1) dX12_check_68 (by decide) ?_
                refine r_ml (pc := 69) (i := 0) (j := 1) hm dX12_check_69 (by decide) rfl (by decide) ?_
                rw [q1.2.1, a3]
                refine r_irem' (pc := 70) dX12_check_70 hne ?_
                rw [rem_nI (d := kSt K) (by omega) (by omega) (by omega)]
                refine r_iconst (pc := 71) (v := 0) dX12_check_71 (by decide) ?_
                rw [show Value.int 0 :: .int (nI (j % kSt K)) :: .int 0 :: [.ref m] = .int (b2i false) :: .int (nI (j % kSt K)) :: .int (nI 0) :: [.ref m] from rfl]
                refine r_Vv (pc := 72) (μ' := mX12_rollsBy) dX12_check_72 nX12_203 iX12_rollsBy vX12_rollsBy kX12_rollsBy rfl rfl (rr (by omega) rfl) rfl ⟨Nat.zero_le _, Nat.zero_le _⟩ (fun _ q_ => cvq q_ (ct)) ?_
                refine aw_ex fun s5 => aw_ex fun f5 => aw_pr fun q5 => ?_
                have k5 : RMk (ckN (hKd hs 0) (hMn hs 0) K (j + 1)) f5 := q5.1
                have o5 : ∀ y, RJ y → y ≠ 10 → f5 y = A 0 y := fun y h1 h2 => (q5.2.1 y h1).trans (q2 y h1 h2)
                have hse : SE (ckN (hKd hs 0) (hMn hs 0) K (j + 1)) lD lL s5 (upA A1 0 f5) := ⟨k5, ⟨tD, (txD f5 o5).1, hD⟩, ⟨tL, (txD f5 o5).2, hL⟩, Or.inl ((q5.2.2.2 9 (by omega)).trans (q3.2.2.1.trans q.2.2.1.2.2))⟩
                refine r_aload_n (pc := 75) dX12_check_75 rfl ?_
                refine r_Vi (pc := 76) (μ' := mX12_seen) dX12_check_76 nX12_211 iX12_seen vX12_seen kX12_seen rfl rfl (rr (by omega) rfl) rfl ⟨Nat.zero_le _, Nat.zero_le _⟩ (fun _ q_ => cvq q_ (ct_M_seen hm b1 (b5.wb (by omega)) hse)) ?_
                refine aw_ex fun s6 => aw_ex fun f6 => aw_pr fun q6 => ?_
                have s64 : s6 4 = s 4 ∧ s6 5 = s 5 ∧ s6 9 = s 9 ∧ s6 26 = s 26 := ⟨(q6.2 4 (by omega)).trans ((q5.2.2.2 4 (by omega)).trans q3.1), (q6.2 5 (by omega)).trans ((q5.2.2.2 5 (by omega)).trans q3.2.1), (q6.2 9 (by omega)).trans ((q5.2.2.2 9 (by omega)).trans q3.2.2.1), (q6.2 26 (by omega)).trans ((q5.2.2.2 26 (by omega)).trans q3.2.2.2)⟩
                have A6 : ∀ i, (i = 1 ∨ i = 4 ∨ i = 7 ∨ i = 8 ∨ i = 9 ∨ i = 13) → upA (upA A1 0 f5) 6 f6 i = A i := fun i hi => (upA_n (by omega)).trans ((upA_n (by omega)).trans (q4 i hi))
                have A62 : upA (upA A1 0 f5) 6 f6 2 = T := (upA_n (by decide)).trans ((upA_n (by decide)).trans qT)
                refine r_aload_n (pc := 79) dX12_check_79 rfl ?_
                refine r_getf (pc := 80) (k := 2) dX12_check_80 hX12 eX12 (by decide) fX12_16 (fun _ q => mo hm q) rfl ?_
                refine r_sipush (pc := 83) (v := 147) dX12_check_83 (by decide) ?_
                refine r_iload_n (pc := 86) dX12_check_86 rfl ?_
                refine r_iadd (pc := 87) dX12_check_87 ?_
                rw [show (147 : Int32) + nI j = nI (147 + j) from nI_add 147 j]
                refine r_ml (pc := 88) (i := 2) (j := (147 + j)) hm dX12_check_88 (by decide) (nI_T (by omega)) (show (147 + j) < 267 by omega) ?_
                rw [A62, hT0 _ (by omega), if_neg (by omega), w147 j hj]
                refine r_icmp_ne (pc := 89) 96 dX12_check_89 (by decide) (fun c89 => ?_) (fun c89 => ?_)
                · skip
                  have hpj : p j = false := by rw [hp]; exact decide_eq_false (fun x => c89 x.2)
                  have hsj : stopAt p wa.length = j := stopAt_eq hn hpj hj
                  refine r_iconst (pc := 96) (v := 0) dX12_check_96 (by decide) ?_
                  refine r_istore_n (pc := 97) dX12_check_97 rfl (Nat.le_of_ble_eq_true rfl) rfl ?_
                  dsimp only [lset]
                  refine r_iload_n (pc := 98) dX12_check_98 rfl ?_
                  refine r_iload_n (pc := 99) dX12_check_99 rfl ?_
                  refine r_if_eq (pc := 100) 107 dX12_check_100 (by decide) (fun c100 => ?_) (fun c100 => ?_)
                  · skip
                    first
                    | exact absurd c100 (by decide)
                    | skip
                      refine r_iconst (pc := 107) (v := 0) dX12_check_107 (by decide) ?_
                      refine r_iadd (pc := 108) dX12_check_108 ?_
                      refine r_istore_n (pc := 109) dX12_check_109 rfl (Nat.le_of_ble_eq_true rfl) rfl ?_
                      dsimp only [lset]
                      refine r_goto (pc := 110) 32 dX12_check_110 (by decide) ?_
                      first
                      | (rw [nI_1]; exact ih (fun x hx => by
                        by_cases c : x = j
                        · rw [c]; exact hpj
                        · exact hn x (by omega)) s6 _ k5 o5 s64 A6 A62)
                      | (rw [show nI j + 0 = nI j from Int32.add_zero _]
                         refine r_iload_n (pc := 32) dX12_check_32 rfl ?_
                         refine r_iload_n (pc := 33) dX12_check_33 rfl ?_
                         refine r_icmp_ge (pc := 34) 113 dX12_check_34 (by decide) (fun c34 => absurd c34 (fun y => by have := fa_le.mp y; omega)) (fun _ => ?_)
                         refine r_iload_n (pc := 37) dX12_check_37 rfl ?_
                         refine r_if_eq (pc := 38) 113 dX12_check_38 (by decide) (fun c38 => ?_) (fun c38 => absurd rfl c38)
                         exact fin _ j false s6 _ s64 A6 A62 (by rw [hA, hsj, if_neg (by omega)]; rfl))
                  · skip
                    first
                    | exact absurd rfl c100
                    | skip
                      refine r_iconst (pc := 103) (v := 1) dX12_check_103 (by decide) ?_
                      refine r_goto (pc := 104) 108 dX12_check_104 (by decide) ?_
                      refine r_iadd (pc := 108) dX12_check_108 ?_
                      refine r_istore_n (pc := 109) dX12_check_109 rfl (Nat.le_of_ble_eq_true rfl) rfl ?_
                      dsimp only [lset]
                      refine r_goto (pc := 110) 32 dX12_check_110 (by decide) ?_
                      first
                      | (rw [nI_1]; exact ih (fun x hx => by
                        by_cases c : x = j
                        · rw [c]; exact hpj
                        · exact hn x (by omega)) s6 _ k5 o5 s64 A6 A62)
                      | (rw [show nI j + 0 = nI j from Int32.add_zero _]
                         refine r_iload_n (pc := 32) dX12_check_32 rfl ?_
                         refine r_iload_n (pc := 33) dX12_check_33 rfl ?_
                         refine r_icmp_ge (pc := 34) 113 dX12_check_34 (by decide) (fun c34 => absurd c34 (fun y => by have := fa_le.mp y; omega)) (fun _ => ?_)
                         refine r_iload_n (pc := 37) dX12_check_37 rfl ?_
                         refine r_if_eq (pc := 38) 113 dX12_check_38 (by decide) (fun c38 => ?_) (fun c38 => absurd rfl c38)
                         exact fin _ j false s6 _ s64 A6 A62 (by rw [hA, hsj, if_neg (by omega)]; rfl))
                · skip
                  have hpj : p j = true := by rw [hp]; exact decide_eq_true ⟨h0, c89⟩
                  refine r_iconst (pc := 92) (v := 1) dX12_check_92 (by decide) ?_
                  refine r_goto (pc := 93) 97 dX12_check_93 (by decide) ?_
                  refine r_istore_n (pc := 97) dX12_check_97 rfl (Nat.le_of_ble_eq_true rfl) rfl ?_
                  dsimp only [lset]
                  refine r_iload_n (pc := 98) dX12_check_98 rfl ?_
                  refine r_iload_n (pc := 99) dX12_check_99 rfl ?_
                  refine r_if_eq (pc := 100) 107 dX12_check_100 (by decide) (fun c100 => ?_) (fun c100 => ?_)
                  · skip
                    first
                    | exact absurd c100 (by decide)
                    | skip
                      refine r_iconst (pc := 107) (v := 0) dX12_check_107 (by decide) ?_
                      refine r_iadd (pc := 108) dX12_check_108 ?_
                      refine r_istore_n (pc := 109) dX12_check_109 rfl (Nat.le_of_ble_eq_true rfl) rfl ?_
                      dsimp only [lset]
                      refine r_goto (pc := 110) 32 dX12_check_110 (by decide) ?_
                      first
                      | (rw [nI_1]; exact ih (fun x hx => by
                        by_cases c : x = j
                        · rw [c]; exact hpj
                        · exact hn x (by omega)) s6 _ k5 o5 s64 A6 A62)
                      | (rw [show nI j + 0 = nI j from Int32.add_zero _]
                         refine r_iload_n (pc := 32) dX12_check_32 rfl ?_
                         refine r_iload_n (pc := 33) dX12_check_33 rfl ?_
                         refine r_icmp_ge (pc := 34) 113 dX12_check_34 (by decide) (fun c34 => absurd c34 (fun y => by have := fa_le.mp y; omega)) (fun _ => ?_)
                         refine r_iload_n (pc := 37) dX12_check_37 rfl ?_
                         refine r_if_eq (pc := 38) 113 dX12_check_38 (by decide) (fun c38 => ?_) (fun c38 => absurd rfl c38)
                         exact fin _ j false s6 _ s64 A6 A62 (by rw [hA, hsj, if_neg (by omega)]; rfl))
                  · skip
                    first
                    | exact absurd rfl c100
                    | skip
                      refine r_iconst (pc := 103) (v := 1) dX12_check_103 (by decide) ?_
                      refine r_goto (pc := 104) 108 dX12_check_104 (by decide) ?_
                      refine r_iadd (pc := 108) dX12_check_108 ?_
                      refine r_istore_n (pc := 109) dX12_check_109 rfl (Nat.le_of_ble_eq_true rfl) rfl ?_
                      dsimp only [lset]
                      refine r_goto (pc := 110) 32 dX12_check_110 (by decide) ?_
                      first
                      | (rw [nI_1]; exact ih (fun x hx => by
                        by_cases c : x = j
                        · rw [c]; exact hpj
                        · exact hn x (by omega)) s6 _ k5 o5 s64 A6 A62)
                      | (rw [show nI j + 0 = nI j from Int32.add_zero _]
                         refine r_iload_n (pc := 32) dX12_check_32 rfl ?_
                         refine r_iload_n (pc := 33) dX12_check_33 rfl ?_
                         refine r_icmp_ge (pc := 34) 113 dX12_check_34 (by decide) (fun c34 => absurd c34 (fun y => by have := fa_le.mp y; omega)) (fun _ => ?_)
                         refine r_iload_n (pc := 37) dX12_check_37 rfl ?_
                         refine r_if_eq (pc := 38) 113 dX12_check_38 (by decide) (fun c38 => ?_) (fun c38 => absurd rfl c38)
                         exact fin _ j false s6 _ s64 A6 A62 (by rw [hA, hsj, if_neg (by omega)]; rfl))
    refine aw_P (P' := MP m h s (upA A 0 (A 0))) (fun _ q => by rw [upA_id]; exact q) ?_
    refine r_aload_n (pc := 0) dX12_check_0 rfl ?_
    refine r_getf (pc := 1) (k := 0) dX12_check_1 hX12 eX12 (by decide) fX12_7 (fun _ q => mo hm q) rfl ?_
    refine r_bipush (pc := 4) (v := 10) dX12_check_4 (by decide) ?_
    refine r_rl (pc := 6) (j := 10) hm dX12_check_6 rfl (by decide) ?_
    rw [w10]
    refine r_istore_n (pc := 7) dX12_check_7 rfl (Nat.le_of_ble_eq_true rfl) rfl ?_
    dsimp only [lset]
    refine r_aload_n (pc := 8) dX12_check_8 rfl ?_
    refine r_getf (pc := 9) (k := 0) dX12_check_9 hX12 eX12 (by decide) fX12_7 (fun _ q => mo hm q) rfl ?_
    refine r_bipush (pc := 12) (v := 10) dX12_check_12 (by decide) ?_
    refine r_iconst (pc := 14) (v := 0) dX12_check_14 (by decide) ?_
    refine r_rs (pc := 15) (j := 10) hm dX12_check_15 rfl (by decide) ?_
    refine r_aload_n (pc := 16) dX12_check_16 rfl ?_
    refine r_aload_n (pc := 17) dX12_check_17 rfl ?_
    refine r_getf (pc := 18) (k := 0) dX12_check_18 hX12 eX12 (by decide) fX12_7 (fun _ q => mo hm q) rfl ?_
    refine r_aload_n (pc := 21) dX12_check_21 rfl ?_
    refine r_getf (pc := 22) (k := 2) dX12_check_22 hX12 eX12 (by decide) fX12_16 (fun _ q => mo hm q) rfl ?_
    refine r_Vv (pc := 25) (μ' := mX12_moveAll) dX12_check_25 nX12_188 iX12_moveAll vX12_moveAll kX12_moveAll rfl rfl (rr (by decide) rfl) rfl ⟨Nat.zero_le _, Nat.zero_le _⟩ (fun _ q_ => cvq q_ (ct_M_moveAll hm 0 2 (by decide) (by decide) (by decide))) ?_
    refine r_iconst (pc := 28) (v := 0) dX12_check_28 (by decide) ?_
    refine r_istore_n (pc := 29) dX12_check_29 rfl (Nat.le_of_ble_eq_true rfl) rfl ?_
    dsimp only [lset]
    refine r_iconst (pc := 30) (v := 1) dX12_check_30 (by decide) ?_
    refine r_istore_n (pc := 31) dX12_check_31 rfl (Nat.le_of_ble_eq_true rfl) rfl ?_
    dsimp only [lset]
    refine L 0 (Nat.zero_le _) (fun x hx => absurd hx (Nat.not_lt_zero x)) s _ rk0 (fun y h1 h2 => upd_n h2) ⟨rfl, rfl, rfl, rfl⟩ (fun i hi => (upA_n (by omega)).trans (upA_n (by omega))) (by rw [hT]; rfl)
  · have hz : hs.length = 0 := by omega
    have hp0 : p 0 = false := by rw [hp]; exact decide_eq_false (fun x => h0 x.1)
    have H0 : ∀ s1 A1, A1 0 8 = nI hs.length → (s1 4 = s 4 ∧ s1 5 = s 5 ∧ s1 9 = s 9 ∧ s1 26 = s 26) → (∀ i, (i = 1 ∨ i = 4 ∨ i = 7 ∨ i = 8 ∨ i = 9 ∨ i = 13) → A1 i = A i) → A1 2 = T → AW (fun _ => True) (rmd 50 0 0) mX12_check 0 0 32 [some (.ref m), some (.int (nI wa.length)), some (.int (nI 0)), some (.int (b2i true))] [] (MP m h s1 A1) Q := by
      intro s1 A1 e8 q3 q4 q5
      refine r_iload_n (pc := 32) dX12_check_32 rfl ?_
      refine r_iload_n (pc := 33) dX12_check_33 rfl ?_
      refine r_icmp_ge (pc := 34) 113 dX12_check_34 (by decide) (fun c34 => ?_) (fun c34 => ?_)
      · skip
        have hw0 : wa.length = 0 := by have := fa_le.mp c34; rw [hTw, show (nI 0).toInt = 0 from rfl] at this; omega
        exact fin _ 0 true s1 A1 q3 q4 q5 (by rw [hA, hw0]; rfl)
      · skip
        have hw0 : 0 < wa.length := by have : ¬ (nI wa.length).toInt ≤ (nI 0).toInt := fun x => c34 (fa_le.mpr x); rw [hTw, show (nI 0).toInt = 0 from rfl] at this; omega
        have hsj : stopAt p wa.length = 0 := stopAt_eq (fun j hj => absurd hj (Nat.not_lt_zero j)) hp0 hw0
        refine r_iload_n (pc := 37) dX12_check_37 rfl ?_
        refine r_if_eq (pc := 38) 113 dX12_check_38 (by decide) (fun c38 => ?_) (fun c38 => ?_)
        · skip
          exact absurd c38 (by decide)
        · skip
          refine r_aload_n (pc := 41) dX12_check_41 rfl ?_
          refine r_getf (pc := 42) (k := 0) dX12_check_42 hX12 eX12 (by decide) fX12_7 (fun _ q => mo hm q) rfl ?_
          refine r_bipush (pc := 45) (v := 8) dX12_check_45 (by decide) ?_
          refine r_ml (pc := 47) (i := 0) (j := 8) hm dX12_check_47 (by decide) rfl (by decide) ?_
          rw [e8]
          refine r_if_le (pc := 48) 55 dX12_check_48 (by decide) (fun c48 => ?_) (fun c48 => ?_)
          · skip
            refine r_iconst (pc := 55) (v := 0) dX12_check_55 (by decide) ?_
            refine r_istore_n (pc := 56) dX12_check_56 rfl (Nat.le_of_ble_eq_true rfl) rfl ?_
            dsimp only [lset]
            refine r_iload_n (pc := 57) dX12_check_57 rfl ?_
            refine r_if_eq (pc := 58) 98 dX12_check_58 (by decide) (fun c58 => ?_) (fun c58 => ?_)
            · skip
              refine r_iload_n (pc := 98) dX12_check_98 rfl ?_
              refine r_iload_n (pc := 99) dX12_check_99 rfl ?_
              refine r_if_eq (pc := 100) 107 dX12_check_100 (by decide) (fun c100 => ?_) (fun c100 => ?_)
              · skip
                refine r_iconst (pc := 107) (v := 0) dX12_check_107 (by decide) ?_
                refine r_iadd (pc := 108) dX12_check_108 ?_
                refine r_istore_n (pc := 109) dX12_check_109 rfl (Nat.le_of_ble_eq_true rfl) rfl ?_
                dsimp only [lset]
                refine r_goto (pc := 110) 32 dX12_check_110 (by decide) ?_
                rw [show nI 0 + 0 = nI 0 from rfl]
                refine r_iload_n (pc := 32) dX12_check_32 rfl ?_
                refine r_iload_n (pc := 33) dX12_check_33 rfl ?_
                refine r_icmp_ge (pc := 34) 113 dX12_check_34 (by decide) (fun c34 => absurd c34 (fun y => by have := fa_le.mp y; rw [hTw, show (nI 0).toInt = 0 from rfl] at this; omega)) (fun _ => ?_)
                refine r_iload_n (pc := 37) dX12_check_37 rfl ?_
                refine r_if_eq (pc := 38) 113 dX12_check_38 (by decide) (fun c38 => ?_) (fun c38 => absurd rfl c38)
                exact fin _ 0 false s1 A1 q3 q4 q5 (by rw [hA, hsj, if_neg (by omega)]; rfl)
              · skip
                exact absurd rfl c100
            · skip
              exact absurd rfl c58
          · skip
            exact absurd (by rw [hz]; decide) c48
    refine aw_P (P' := MP m h s (upA A 0 (A 0))) (fun _ q => by rw [upA_id]; exact q) ?_
    refine r_aload_n (pc := 0) dX12_check_0 rfl ?_
    refine r_getf (pc := 1) (k := 0) dX12_check_1 hX12 eX12 (by decide) fX12_7 (fun _ q => mo hm q) rfl ?_
    refine r_bipush (pc := 4) (v := 10) dX12_check_4 (by decide) ?_
    refine r_rl (pc := 6) (j := 10) hm dX12_check_6 rfl (by decide) ?_
    rw [w10]
    refine r_istore_n (pc := 7) dX12_check_7 rfl (Nat.le_of_ble_eq_true rfl) rfl ?_
    dsimp only [lset]
    refine r_aload_n (pc := 8) dX12_check_8 rfl ?_
    refine r_getf (pc := 9) (k := 0) dX12_check_9 hX12 eX12 (by decide) fX12_7 (fun _ q => mo hm q) rfl ?_
    refine r_bipush (pc := 12) (v := 10) dX12_check_12 (by decide) ?_
    refine r_iconst (pc := 14) (v := 0) dX12_check_14 (by decide) ?_
    refine r_rs (pc := 15) (j := 10) hm dX12_check_15 rfl (by decide) ?_
    refine r_aload_n (pc := 16) dX12_check_16 rfl ?_
    refine r_aload_n (pc := 17) dX12_check_17 rfl ?_
    refine r_getf (pc := 18) (k := 0) dX12_check_18 hX12 eX12 (by decide) fX12_7 (fun _ q => mo hm q) rfl ?_
    refine r_aload_n (pc := 21) dX12_check_21 rfl ?_
    refine r_getf (pc := 22) (k := 2) dX12_check_22 hX12 eX12 (by decide) fX12_16 (fun _ q => mo hm q) rfl ?_
    refine r_Vv (pc := 25) (μ' := mX12_moveAll) dX12_check_25 nX12_188 iX12_moveAll vX12_moveAll kX12_moveAll rfl rfl (rr (by decide) rfl) rfl ⟨Nat.zero_le _, Nat.zero_le _⟩ (fun _ q_ => cvq q_ (ct_M_moveAll hm 0 2 (by decide) (by decide) (by decide))) ?_
    refine r_iconst (pc := 28) (v := 0) dX12_check_28 (by decide) ?_
    refine r_istore_n (pc := 29) dX12_check_29 rfl (Nat.le_of_ble_eq_true rfl) rfl ?_
    dsimp only [lset]
    refine r_iconst (pc := 30) (v := 1) dX12_check_30 (by decide) ?_
    refine r_istore_n (pc := 31) dX12_check_31 rfl (Nat.le_of_ble_eq_true rfl) rfl ?_
    dsimp only [lset]
    refine H0 s _ (show upd (A 0) 10 0 8 = nI hs.length from (upd_n (by decide)).trans r8) ⟨rfl, rfl, rfl, rfl⟩ (fun i hi => (upA_n (by omega)).trans (upA_n (by omega))) (by rw [hT]; rfl)
theorem dseq_mS {kd mm mi : Nat} (hkd : kd < 7) (hmm : mm < 10) : ∀ j, j ≤ 6 → dseq (nI kd) (nI mm) (nI mi) j = nI (mS kd mm mi j)
  | 0 => fun _ => rfl
  | j + 1 => fun hj => by rw [dseq_s, dseq_mS hkd hmm j (by omega), (mf_ok kd hkd mm hmm j (by omega)).1, nI_add]; rfl
theorem paint_col {kd mm sx : Nat} {r : Nat} (hr : r < kRo K) : kW (paintK kd mm sx false K) r sx = ((mS kd mm (kMi K) (r + 1) : Nat) : Int) := by
  obtain ⟨ro, st, mi, he, le, wh, si, ca, w, v⟩ := K
  show kW (paintN kd mm sx false (ro, st, mi, he, le, wh, si, ca, w, v) ro) r sx = _
  rw [paint_form]
  exact if_pos ⟨hr, rfl⟩
theorem all_stop {p : Nat → Bool} : ∀ n, (List.range n).all p = decide (stopAt p n = n)
  | 0 => rfl
  | n + 1 => by
    rw [List.range_succ, List.all_append, all_stop n]
    have := stopAt_le p n
    show (decide (stopAt p n = n) && ([n].all p)) = decide ((if stopAt p n = n ∧ p n = true then n + 1 else stopAt p n) = n + 1)
    by_cases c : stopAt p n = n ∧ p n = true
    · rw [if_pos c, decide_eq_true c.1]; simp [c.2]
    · rw [if_neg c, show decide (stopAt p n = n + 1) = false from decide_eq_false (by omega)]
      by_cases d : stopAt p n = n
      · rw [decide_eq_true d]
        have : p n = false := by cases e : p n with | false => rfl | true => exact absurd ⟨d, e⟩ c
        simp [this]
      · rw [decide_eq_false d]; rfl
set_option maxHeartbeats 8000000 in
theorem ct_M_rollsSo (hm : m + 14 < h.1) (q : MG K hs tD tL tp wa z k bt sh hd er im s A) (ok : KOk K) {kd mm sx j : Nat} (hkd : kd < 7) (hmm : mm < 10) (hs' : sx < kSt K) (hj : j < 4) (hl : (sh j).length = kRo K) : CV 8 0 0 mX12_rollsSo m [.int (nI kd), .int (nI mm), .int (nI sx), .int (nI j)] (mh m h s A) (fun v g => v = some (.int (b2i (doesB (sh j) (nI (kMi K)) (nI kd) (nI mm)))) ∧ ∃ s2 A2, MG K hs tD tL tp wa z k bt sh hd er im s2 A2 ∧ MP m h s2 A2 g) := by
  refine ⟨mV hm, ?_⟩
  refine ct_of (by decide) (fun _ _ => Nat.le_of_ble_eq_true rfl) ?_
  dsimp only [pad, ent]
  have hst : 1 ≤ kSt K ∧ kSt K ≤ 6 := ok.2.1
  have hro : 1 ≤ kRo K ∧ kRo K ≤ 6 := ok.1
  have h36 : kRo K * kSt K ≤ 6 * 6 := Nat.mul_le_mul (by omega) (by omega)
  have hTr := nI_T (n := kRo K) (by omega)
  obtain ⟨a1, a2, a3, a4⟩ := q.shs hj
  obtain ⟨p, hp⟩ : ∃ p : Nat → Bool, p = fun x => decide ((sh j).getD x 0 = dseq (nI kd) (nI mm) (nI (kMi K)) (x + 1)) := ⟨_, rfl⟩
  have hdo : doesB (sh j) (nI (kMi K)) (nI kd) (nI mm) = decide (stopAt p (kRo K) = kRo K) := by
    rw [hp, ← all_stop, ← hl]; rfl
  obtain ⟨x1, x2, x3, x4⟩ := paintK_ok (kd := kd) (m := mm) (s := sx) (up := false) ok
  have L : ∀ s1 f : Nat → Int32, RMk (paintK kd mm sx false K) f → sEq 18 s s1 → ∀ x, x ≤ kRo K → ∀ b : Bool, b = decide (stopAt p x = x) → AW (fun _ => True) (rmd 8 0 0) mX12_rollsSo 0 0 26 [some (.ref m), some (.int (nI kd)), some (.int (nI mm)), some (.int (nI sx)), some (.int (nI j)), some (.int (b2i b)), some (.int (nI x))] [] (MP m h s1 (upA (upA A 2 (mvF (A 0) (A 2))) 0 f)) (fun v g => v = some (.int (b2i (doesB (sh j) (nI (kMi K)) (nI kd) (nI mm)))) ∧ ∃ s2 A2, MG K hs tD tL tp wa z k bt sh hd er im s2 A2 ∧ MP m h s2 A2 g) := by
    intro s1 f q1 q3
    have f0 : f 0 = nI (kRo K) := q1.1.trans (by rw [x2])
    have f1 : f 1 = nI (kSt K) := q1.2.1.trans (by rw [x3])
    refine up_loop ?_ ?_
    · intro b hb
      rw [hdo, ← hb]
      refine r_iload (pc := 26) dX12_rollsSo_26 rfl ?_
      refine r_aload_n (pc := 28) dX12_rollsSo_28 rfl ?_
      refine r_getf (pc := 29) (k := 0) dX12_rollsSo_29 hX12 eX12 (by decide) fX12_7 (fun _ q => mo hm q) rfl ?_
      refine r_iconst (pc := 32) (v := 0) dX12_rollsSo_32 (by decide) ?_
      refine r_rl (pc := 33) (j := 0) hm dX12_rollsSo_33 rfl (by decide) ?_
      rw [f0]
      refine r_icmp_ge (pc := 34) 86 dX12_rollsSo_34 (by decide) (fun c34 => ?_) (fun c34 => ?_)
      · skip
        refine r_aload_n (pc := 86) dX12_rollsSo_86 rfl ?_
        refine r_aload_n (pc := 87) dX12_rollsSo_87 rfl ?_
        refine r_getf (pc := 88) (k := 2) dX12_rollsSo_88 hX12 eX12 (by decide) fX12_16 (fun _ q => mo hm q) rfl ?_
        refine r_aload_n (pc := 91) dX12_rollsSo_91 rfl ?_
        refine r_getf (pc := 92) (k := 0) dX12_rollsSo_92 hX12 eX12 (by decide) fX12_7 (fun _ q => mo hm q) rfl ?_
        refine r_Vv (pc := 95) (μ' := mX12_moveAll) dX12_rollsSo_95 nX12_188 iX12_moveAll vX12_moveAll kX12_moveAll rfl rfl (rr (by decide) rfl) rfl ⟨Nat.zero_le _, Nat.zero_le _⟩ (fun _ q_ => cvq q_ (ct_M_moveAll hm 2 0 (by decide) (by decide) (by decide))) ?_
        refine r_iload (pc := 98) dX12_rollsSo_98 rfl ?_
        refine r_ireturn (pc := 100) (ty := .boolean) dX12_rollsSo_100 rfl (nar_b _) ⟨Nat.zero_le _, Nat.zero_le _⟩ (fun gE hg => ?_)
        refine ⟨rfl, _, _, q.back ok ⟨q3 4 (by omega), q3 5 (by omega), q3 9 (by omega), q3 26 (by omega)⟩ (fun i hi => ?_) (fun j hj => ?_), hg⟩
        · rw [upA_n (by omega), upA_n (by omega), upA_n (by omega)]
        · rw [upA_s]
          exact (if_pos hj).trans (if_pos hj)
      · skip
        exact absurd (fa_le.mpr (Int.le_refl _)) c34
    · intro x hx ih b hb
      have hTx := nI_T (n := x) (by omega)
      have hcl := cell_lt hx hs'
      have hmul : nI x * nI (kSt K) + nI sx = nI (x * kSt K + sx) := by rw [pk_mul, nI_add]
      have hw := (q1.2.2.2.2.2.2.2 x sx (by rw [x2]; exact hx) (by rw [x3]; exact hs')).1
      rw [x3, paint_col hx, iI_nI] at hw
      have hpx : p x = decide ((sh j).getD x 0 = nI (mS kd mm (kMi K) (x + 1))) := by rw [hp]; show decide (_ = dseq _ _ _ (x + 1)) = _; rw [dseq_mS hkd hmm (x + 1) (by omega)]
      have hle := stopAt_le p x
      have es : stopAt p (x + 1) = if stopAt p x = x ∧ p x = true then x + 1 else stopAt p x := rfl
      have nx : ∀ c : Bool, c = (b && p x) → c = decide (stopAt p (x + 1) = x + 1) := by
        intro c hc
        rw [hc, hb, es]
        by_cases d : stopAt p x = x
        · cases e : p x with
          | true => rw [if_pos ⟨d, rfl⟩, decide_eq_true d, decide_eq_true rfl]; rfl
          | false => rw [if_neg (fun y => absurd y.2 Bool.false_ne_true), Bool.and_false, decide_eq_false (by omega)]
        · rw [if_neg (fun y => d y.1), decide_eq_false d, Bool.false_and, decide_eq_false (by omega)]
      refine r_iload (pc := 26) dX12_rollsSo_26 rfl ?_
      refine r_aload_n (pc := 28) dX12_rollsSo_28 rfl ?_
      refine r_getf (pc := 29) (k := 0) dX12_rollsSo_29 hX12 eX12 (by decide) fX12_7 (fun _ q => mo hm q) rfl ?_
      refine r_iconst (pc := 32) (v := 0) dX12_rollsSo_32 (by decide) ?_
      refine r_rl (pc := 33) (j := 0) hm dX12_rollsSo_33 rfl (by decide) ?_
      rw [f0]
      refine r_icmp_ge (pc := 34) 86 dX12_rollsSo_34 (by decide) (fun c34 => ?_) (fun c34 => ?_)
      · skip
        exact absurd c34 (fun y => by have := fa_le.mp y; omega)
      · skip
        refine r_iload (pc := 37) dX12_rollsSo_37 rfl ?_
        refine r_if_eq (pc := 39) 77 dX12_rollsSo_39 (by decide) (fun c39 => ?_) (fun c39 => ?_)
        · skip
          have hbf : b = false := b2i_0.mp c39
          refine r_iconst (pc := 77) (v := 0) dX12_rollsSo_77 (by decide) ?_
          refine r_istore (pc := 78) dX12_rollsSo_78 (Nat.le_of_ble_eq_true rfl) rfl ?_
          dsimp only [lset]
          refine r_iinc1 (pc := 80) dX12_rollsSo_80 rfl (Nat.le_of_ble_eq_true rfl) rfl ?_
          dsimp only [lset]
          refine r_goto (pc := 83) 26 dX12_rollsSo_83 (by decide) ?_
          rw [nI_1]
          first
          | exact ih true (nx true (by rw [hbt, hp9]; rfl))
          | exact ih false (nx false (by rw [hp9, Bool.and_false]))
          | exact ih false (nx false (by rw [hbf]; rfl))
        · skip
          have hbt : b = true := b2i_n0.mp c39
          refine r_aload_n (pc := 42) dX12_rollsSo_42 rfl ?_
          refine r_iload (pc := 43) dX12_rollsSo_43 rfl ?_
          refine r_aload_n (pc := 45) dX12_rollsSo_45 rfl ?_
          refine r_getf (pc := 46) (k := 0) dX12_rollsSo_46 hX12 eX12 (by decide) fX12_7 (fun _ q => mo hm q) rfl ?_
          refine r_iconst (pc := 49) (v := 1) dX12_rollsSo_49 (by decide) ?_
          refine r_rl (pc := 50) (j := 1) hm dX12_rollsSo_50 rfl (by decide) ?_
          rw [f1]
          refine r_imul (pc := 51) dX12_rollsSo_51 ?_
          refine r_iload_n (pc := 52) dX12_rollsSo_52 rfl ?_
          refine r_iadd (pc := 53) dX12_rollsSo_53 ?_
          rw [hmul]
          refine r_Vi (pc := 54) (μ' := mX12_whenOf) dX12_rollsSo_54 nX12_81 iX12_whenOf vX12_whenOf kX12_whenOf rfl rfl (rr (by decide) rfl) rfl ⟨Nat.zero_le _, Nat.zero_le _⟩ (fun _ q_ => cvq q_ (ct_M_whenOf hm (show x * kSt K + sx < 36 by omega))) ?_
          rw [show upA (upA A 2 (mvF (A 0) (A 2))) 0 f 0 (25 + 2 * (x * kSt K + sx)) = _ from hw]
          refine r_aload_n (pc := 57) dX12_rollsSo_57 rfl ?_
          refine r_getf (pc := 58) (k := 21) dX12_rollsSo_58 hX12 eX12 (by decide) fX12_37 (fun _ q => mo hm q) rfl ?_
          refine r_bipush (pc := 61) (v := 40) dX12_rollsSo_61 (by decide) ?_
          refine r_iload (pc := 63) dX12_rollsSo_63 rfl ?_
          refine r_imul (pc := 65) dX12_rollsSo_65 ?_
          refine r_iload (pc := 66) dX12_rollsSo_66 rfl ?_
          refine r_iadd (pc := 68) dX12_rollsSo_68 ?_
          rw [ix40]
          refine r_ml (pc := 69) (i := 9) (j := (40 * j + x)) hm dX12_rollsSo_69 (by decide) (nI_T (by omega)) (show (40 * j + x) < 160 by omega) ?_
          rw [show upA (upA A 2 (mvF (A 0) (A 2))) 0 f 9 (40 * j + x) = (sh j).getD x 0 from a4 x (by omega)]
          refine r_icmp_ne (pc := 70) 77 dX12_rollsSo_70 (by decide) (fun c70 => ?_) (fun c70 => ?_)
          · skip
            have hp9 : p x = false := by rw [hpx]; exact decide_eq_false (fun y => c70 y.symm)
            refine r_iconst (pc := 77) (v := 0) dX12_rollsSo_77 (by decide) ?_
            refine r_istore (pc := 78) dX12_rollsSo_78 (Nat.le_of_ble_eq_true rfl) rfl ?_
            dsimp only [lset]
            refine r_iinc1 (pc := 80) dX12_rollsSo_80 rfl (Nat.le_of_ble_eq_true rfl) rfl ?_
            dsimp only [lset]
            refine r_goto (pc := 83) 26 dX12_rollsSo_83 (by decide) ?_
            rw [nI_1]
            first
            | exact ih true (nx true (by rw [hbt, hp9]; rfl))
            | exact ih false (nx false (by rw [hp9, Bool.and_false]))
            | exact ih false (nx false (by rw [hbf]; rfl))
          · skip
            have hp9 : p x = true := by rw [hpx]; exact decide_eq_true c70.symm
            refine r_iconst (pc := 73) (v := 1) dX12_rollsSo_73 (by decide) ?_
            refine r_goto (pc := 74) 78 dX12_rollsSo_74 (by decide) ?_
            refine r_istore (pc := 78) dX12_rollsSo_78 (Nat.le_of_ble_eq_true rfl) rfl ?_
            dsimp only [lset]
            refine r_iinc1 (pc := 80) dX12_rollsSo_80 rfl (Nat.le_of_ble_eq_true rfl) rfl ?_
            dsimp only [lset]
            refine r_goto (pc := 83) 26 dX12_rollsSo_83 (by decide) ?_
            rw [nI_1]
            first
            | exact ih true (nx true (by rw [hbt, hp9]; rfl))
            | exact ih false (nx false (by rw [hp9, Bool.and_false]))
            | exact ih false (nx false (by rw [hbf]; rfl))
  refine aw_P (P' := MP m h s A) (fun _ q => q) ?_
  refine r_aload_n (pc := 0) dX12_rollsSo_0 rfl ?_
  refine r_aload_n (pc := 1) dX12_rollsSo_1 rfl ?_
  refine r_getf (pc := 2) (k := 0) dX12_rollsSo_2 hX12 eX12 (by decide) fX12_7 (fun _ q => mo hm q) rfl ?_
  refine r_aload_n (pc := 5) dX12_rollsSo_5 rfl ?_
  refine r_getf (pc := 6) (k := 2) dX12_rollsSo_6 hX12 eX12 (by decide) fX12_16 (fun _ q => mo hm q) rfl ?_
  refine r_Vv (pc := 9) (μ' := mX12_moveAll) dX12_rollsSo_9 nX12_188 iX12_moveAll vX12_moveAll kX12_moveAll rfl rfl (rr (by decide) rfl) rfl ⟨Nat.zero_le _, Nat.zero_le _⟩ (fun _ q_ => cvq q_ (ct_M_moveAll hm 0 2 (by decide) (by decide) (by decide))) ?_
  refine r_aload_n (pc := 12) dX12_rollsSo_12 rfl ?_
  refine r_iload_n (pc := 13) dX12_rollsSo_13 rfl ?_
  refine r_iload_n (pc := 14) dX12_rollsSo_14 rfl ?_
  refine r_iload_n (pc := 15) dX12_rollsSo_15 rfl ?_
  refine r_iconst (pc := 16) (v := 0) dX12_rollsSo_16 (by decide) ?_
  rw [show (0 : Int32) = b2i false from rfl]
  refine aw_P (P' := MP m h s (upA A 2 (mvF (A 0) (A 2)))) (fun _ q => q) ?_
  refine r_Vv (pc := 17) (μ' := mX12_rolls) dX12_rollsSo_17 nX12_195 iX12_rolls vX12_rolls kX12_rolls rfl rfl (rr (by decide) rfl) rfl ⟨Nat.zero_le _, Nat.zero_le _⟩ (fun _ q_ => cvq q_ (ct_M_rolls (A := upA A 2 (mvF (A 0) (A 2))) hm hkd hmm hs' ok q.rk (s18_any s K))) ?_
  refine aw_ex fun s5 => aw_ex fun f5 => aw_pr fun q5 => ?_
  refine r_iconst (pc := 20) (v := 1) dX12_rollsSo_20 (by decide) ?_
  refine r_istore (pc := 21) dX12_rollsSo_21 (Nat.le_of_ble_eq_true rfl) rfl ?_
  dsimp only [lset]
  refine r_iconst (pc := 23) (v := 0) dX12_rollsSo_23 (by decide) ?_
  refine r_istore (pc := 24) dX12_rollsSo_24 (Nat.le_of_ble_eq_true rfl) rfl ?_
  dsimp only [lset]
  exact L s5 f5 q5.1 q5.2.2.2 0 (Nat.zero_le _) true rfl
theorem find_r {p : Nat → Bool} : ∀ n, (List.range n).find? p = if stopAt (fun x => !p x) n = n then none else some (stopAt (fun x => !p x) n)
  | 0 => rfl
  | n + 1 => by
    have hle := stopAt_le (fun x => !p x) n
    have es : stopAt (fun x => !p x) (n + 1) = if stopAt (fun x => !p x) n = n ∧ (!p n) = true then n + 1 else stopAt (fun x => !p x) n := rfl
    rw [List.range_succ, List.find?_append, find_r n, es]
    by_cases c : stopAt (fun x => !p x) n = n
    · cases e : p n with
      | false =>
        have d1 : stopAt (fun x => !p x) n = n ∧ (!false) = true := ⟨c, rfl⟩
        rw [if_pos c, if_pos d1, if_pos rfl]
        simp [e]
      | true =>
        have d1 : ¬ (stopAt (fun x => !p x) n = n ∧ (!true) = true) := fun y => absurd y.2 (by decide)
        rw [if_pos c, if_neg d1, c, if_neg (by omega)]
        simp [e]
    · have d1 : ¬ (stopAt (fun x => !p x) n = n ∧ (!p n) = true) := fun y => c y.1
      rw [if_neg c, if_neg d1, if_neg (by omega)]; rfl
set_option maxHeartbeats 8000000 in
theorem cm_whose (hm : m + 14 < h.1) {a b c : Int32} (q : MG K hs tD tL tp wa z k bt sh hd er im s A) (ok : KOk K) (hok : HOk hs) (e1 : (hdB hs a && decide (0 ≤ b.toInt ∧ b.toInt < kSt K) && shB c) = false → ∀ s2 A2, MG K hs tD tL tp wa z k bt sh hd (errL er 1) im s2 A2 → Q (some (.int (-1000000000 - 1))) (mh m h s2 A2)) (e2 : ∀ i sx j, a = nI i → i < hs.length → b = nI sx → sx < kSt K → c = nI j → j < 4 → (bt j = 0 ∨ ¬ (sh j).length = kRo K ∨ lbI (sh j) (nI (kMi K)) (nI (hMn hs i)) < 0) → ∀ s2 A2, MG K hs tD tL tp wa z k bt sh hd (errL er 2) im s2 A2 → Q (some (.int (-1000000000 - 2))) (mh m h s2 A2)) (hP : ∀ i sx j, a = nI i → i < hs.length → b = nI sx → sx < kSt K → c = nI j → j < 4 → ¬ bt j = 0 → (sh j).length = kRo K → ¬ lbI (sh j) (nI (kMi K)) (nI (hMn hs i)) < 0 → ∀ s2 A2, MG K hs tD tL tp wa z k bt sh hd er im s2 A2 → Q (some (.int (lbI (sh j) (nI (kMi K)) (nI (hMn hs i))))) (mh m h s2 A2)) : CV 12 0 0 mX12_whose m [.int a, .int b, .int c] (mh m h s A) Q := by
  refine ⟨mV hm, ?_⟩
  refine ct_of (by decide) (fun _ _ => Nat.le_of_ble_eq_true rfl) ?_
  dsimp only [pad, ent]
  have hst : 1 ≤ kSt K ∧ kSt K ≤ 6 := ok.2.1
  have hro : 1 ≤ kRo K ∧ kRo K ≤ 6 := ok.1
  have hTr := nI_T (n := kRo K) (by omega)
  have h6 := hok.1
  have L : ∀ i sx j, a = nI i → i < hs.length → b = nI sx → sx < kSt K → c = nI j → j < 4 → ¬ bt j = 0 → (sh j).length = kRo K → ∀ x, x ≤ 7 → (∀ y, y < x → doesB (sh j) (nI (kMi K)) (nI y) (nI (hMn hs i)) = false) → ∀ s1 A1, MG K hs tD tL tp wa z k bt sh hd er im s1 A1 → AW (fun _ => True) (rmd 12 0 0) mX12_whose 0 0 64 [some (.ref m), some (.int (nI i)), some (.int (nI sx)), some (.int (nI j)), some (.int (nI x))] [] (MP m h s1 A1) Q := by
    intro i sx j hi hi2 hs1 hs2 hj hj4 hb hl
    have h7 := hP i sx j hi hi2 hs1 hs2 hj hj4 hb hl
    have h2 := e2 i sx j hi hi2 hs1 hs2 hj hj4
    obtain ⟨p, hp⟩ : ∃ p : Nat → Bool, p = fun x => doesB (sh j) (nI (kMi K)) (nI x) (nI (hMn hs i)) := ⟨_, rfl⟩
    have hlb : lbI (sh j) (nI (kMi K)) (nI (hMn hs i)) = match (List.range 7).find? p with
      | some kd => nI kd
      | none => -1 := by rw [hp]; rfl
    rw [find_r] at hlb
    have hh := hok.at hi2
    refine up_loop ?_ ?_
    · intro hn s1 A1 q1
      have hst7 : stopAt (fun x => !p x) 7 = 7 := stopAt_all (fun y hy => by rw [hp]; show (!doesB _ _ _ _) = true; rw [hn y hy]; rfl)
      rw [if_pos hst7] at hlb
      have hlt : lbI (sh j) (nI (kMi K)) (nI (hMn hs i)) < 0 := by rw [hlb]; exact m1_lt0
      refine r_iload (pc := 64) dX12_whose_64 rfl ?_
      refine r_bipush (pc := 66) (v := 6) dX12_whose_66 (by decide) ?_
      refine r_icmp_gt (pc := 68) 93 dX12_whose_68 (by decide) (fun c68 => ?_) (fun c68 => ?_)
      · skip
        refine r_iload (pc := 93) dX12_whose_93 rfl ?_
        refine r_bipush (pc := 95) (v := 6) dX12_whose_95 (by decide) ?_
        refine r_icmp_le (pc := 97) 109 dX12_whose_97 (by decide) (fun c97 => ?_) (fun c97 => ?_)
        · skip
          exact absurd c97 (by decide)
        · skip
          refine r_aload_n (pc := 100) dX12_whose_100 rfl ?_
          refine r_ldc (pc := 101) (v := (-1000000002)) dX12_whose_101 qX12_220 ?_
          refine r_Vi (pc := 103) (μ' := mX12_errs) dX12_whose_103 nX12_62 iX12_errs vX12_errs kX12_errs rfl rfl (rr (by decide) rfl) rfl ⟨Nat.zero_le _, Nat.zero_le _⟩ (fun _ q_ => cvq q_ (ct_M_errs hm 2 (by decide) (by decide))) ?_
          refine r_goto (pc := 106) 111 dX12_whose_106 (by decide) ?_
          rw [show (-1000000002 : Int32) = -1000000000 - 2 from rfl]
          refine r_ireturn (pc := 111) (ty := .int) dX12_whose_111 rfl rfl ⟨Nat.zero_le _, Nat.zero_le _⟩ (fun gE hg => ?_)
          exact mR hg (h2 (Or.inr (Or.inr hlt)) _ _ (q1.err (by decide) rfl))
      · skip
        exact absurd (by decide) c68
    · intro x hx ih hn s1 A1 q1
      have hT := nI_T (n := x) (by omega)
      have r2 := (hs_rm q1.rr hi2).2
      refine r_iload (pc := 64) dX12_whose_64 rfl ?_
      refine r_bipush (pc := 66) (v := 6) dX12_whose_66 (by decide) ?_
      refine r_icmp_gt (pc := 68) 93 dX12_whose_68 (by decide) (fun c68 => ?_) (fun c68 => ?_)
      · skip
        exact absurd c68 (fun y => by have := fa_lt.mp y; rw [hT, show (6 : Int32).toInt = 6 from rfl] at this; omega)
      · skip
        refine r_aload_n (pc := 71) dX12_whose_71 rfl ?_
        refine r_iload (pc := 72) dX12_whose_72 rfl ?_
        refine r_aload_n (pc := 74) dX12_whose_74 rfl ?_
        refine r_iload_n (pc := 75) dX12_whose_75 rfl ?_
        refine r_Vi (pc := 76) (μ' := mX12_mOf) dX12_whose_76 nX12_104 iX12_mOf vX12_mOf kX12_mOf rfl rfl (rr (by decide) rfl) rfl ⟨Nat.zero_le _, Nat.zero_le _⟩ (fun _ q_ => cvq q_ (ct_M_mOf hm (show i < 6 by omega))) ?_
        rw [r2]
        refine r_iload_n (pc := 79) dX12_whose_79 rfl ?_
        refine r_iload_n (pc := 80) dX12_whose_80 rfl ?_
        refine r_Vi (pc := 81) (μ' := mX12_rollsSo) dX12_whose_81 nX12_240 iX12_rollsSo vX12_rollsSo kX12_rollsSo rfl rfl (rr (by decide) rfl) rfl ⟨Nat.zero_le _, Nat.zero_le _⟩ (fun _ q_ => cvq q_ (ct_M_rollsSo hm q1 ok hx hh.2 hs2 hj4 hl)) ?_
        refine aw_ex fun s4 => aw_ex fun A4 => aw_pr fun q4 => ?_
        refine r_if_ne (pc := 84) 93 dX12_whose_84 (by decide) (fun c84 => ?_) (fun c84 => ?_)
        · skip
          have k1 := b2i_n0.mp c84
          have hst7 : stopAt (fun x => !p x) 7 = x := stopAt_eq (fun y hy => by rw [hp]; show (!doesB _ _ _ _) = true; rw [hn y hy]; rfl) (by rw [hp]; show (!doesB _ _ _ _) = false; rw [k1]; rfl) hx
          rw [hst7, if_neg (by omega)] at hlb
          have hlb2 : lbI (sh j) (nI (kMi K)) (nI (hMn hs i)) = nI x := hlb
          refine r_iload (pc := 93) dX12_whose_93 rfl ?_
          refine r_bipush (pc := 95) (v := 6) dX12_whose_95 (by decide) ?_
          refine r_icmp_le (pc := 97) 109 dX12_whose_97 (by decide) (fun c97 => ?_) (fun c97 => ?_)
          · skip
            refine r_iload (pc := 109) dX12_whose_109 rfl ?_
            refine r_ireturn (pc := 111) (ty := .int) dX12_whose_111 rfl rfl ⟨Nat.zero_le _, Nat.zero_le _⟩ (fun gE hg => ?_)
            rw [hlb2] at h7
            exact mR hg (h7 (nI_pos (by omega)) _ _ q4)
          · skip
            exact absurd (fa_le.mpr (by rw [hT, show (6 : Int32).toInt = 6 from rfl]; omega)) c97
        · skip
          have k1 := b2i_0.mp c84
          refine r_iinc1 (pc := 87) dX12_whose_87 rfl (Nat.le_of_ble_eq_true rfl) rfl ?_
          dsimp only [lset]
          refine r_goto (pc := 90) 64 dX12_whose_90 (by decide) ?_
          rw [nI_1]
          exact ih (fun y hy => by
            by_cases e : y = x
            · rw [e]; exact k1
            · exact hn y (by omega)) s4 A4 q4
  refine aw_P (P' := MP m h s A) (fun _ q => q) ?_
  refine r_aload_n (pc := 0) dX12_whose_0 rfl ?_
  refine r_iload_n (pc := 1) dX12_whose_1 rfl ?_
  refine r_Vi (pc := 2) (μ' := mX12_isHand) dX12_whose_2 nX12_98 iX12_isHand vX12_isHand kX12_isHand rfl rfl (rr (by decide) rfl) rfl ⟨Nat.zero_le _, Nat.zero_le _⟩ (fun _ q_ => cvq q_ (ct_M_isHand hm)) ?_
  rw [q.hb]
  refine r_if_eq (pc := 5) 23 dX12_whose_5 (by decide) (fun c5 => ?_) (fun c5 => ?_)
  · skip
    have k1 := b2i_0.mp c5
    refine r_aload_n (pc := 23) dX12_whose_23 rfl ?_
    refine r_ldc (pc := 24) (v := (-1000000001)) dX12_whose_24 qX12_61 ?_
    refine r_Vi (pc := 26) (μ' := mX12_errs) dX12_whose_26 nX12_62 iX12_errs vX12_errs kX12_errs rfl rfl (rr (by decide) rfl) rfl ⟨Nat.zero_le _, Nat.zero_le _⟩ (fun _ q_ => cvq q_ (ct_M_errs hm 1 (by decide) (by decide))) ?_
    rw [show (-1000000001 : Int32) = -1000000000 - 1 from rfl]
    refine r_ireturn (pc := 29) (ty := .int) dX12_whose_29 rfl rfl ⟨Nat.zero_le _, Nat.zero_le _⟩ (fun gE hg => ?_)
    exact mR hg (e1 (by first | (rw [k1]; rfl) | (rw [k1, k2]; rfl) | (rw [k1, k2, k3]; rfl)) _ _ (q.err (by decide) rfl))
  · skip
    have k1 := b2i_n0.mp c5
    refine r_aload_n (pc := 8) dX12_whose_8 rfl ?_
    refine r_iload_n (pc := 9) dX12_whose_9 rfl ?_
    refine r_Vi (pc := 10) (μ' := mX12_isStrip) dX12_whose_10 nX12_199 iX12_isStrip vX12_isStrip kX12_isStrip rfl rfl (rr (by decide) rfl) rfl ⟨Nat.zero_le _, Nat.zero_le _⟩ (fun _ q_ => cvq q_ (ct_M_isStrip hm)) ?_
    rw [q.stb ok]
    refine r_if_eq (pc := 13) 23 dX12_whose_13 (by decide) (fun c13 => ?_) (fun c13 => ?_)
    · skip
      have k2 := b2i_0.mp c13
      refine r_aload_n (pc := 23) dX12_whose_23 rfl ?_
      refine r_ldc (pc := 24) (v := (-1000000001)) dX12_whose_24 qX12_61 ?_
      refine r_Vi (pc := 26) (μ' := mX12_errs) dX12_whose_26 nX12_62 iX12_errs vX12_errs kX12_errs rfl rfl (rr (by decide) rfl) rfl ⟨Nat.zero_le _, Nat.zero_le _⟩ (fun _ q_ => cvq q_ (ct_M_errs hm 1 (by decide) (by decide))) ?_
      rw [show (-1000000001 : Int32) = -1000000000 - 1 from rfl]
      refine r_ireturn (pc := 29) (ty := .int) dX12_whose_29 rfl rfl ⟨Nat.zero_le _, Nat.zero_le _⟩ (fun gE hg => ?_)
      exact mR hg (e1 (by first | (rw [k1]; rfl) | (rw [k1, k2]; rfl) | (rw [k1, k2, k3]; rfl)) _ _ (q.err (by decide) rfl))
    · skip
      have k2 := b2i_n0.mp c13
      refine r_iload_n (pc := 16) dX12_whose_16 rfl ?_
      refine r_Sp (pc := 17) (μ' := mX12_isSheet) dX12_whose_17 nX12_217 sX12_isSheet kX12_isSheet rfl rfl (rr (by decide) rfl) rfl ⟨Nat.zero_le _, Nat.zero_le _⟩ (fun h => ct_M_isSheet h) ?_
      refine r_if_ne (pc := 20) 30 dX12_whose_20 (by decide) (fun c20 => ?_) (fun c20 => ?_)
      · skip
        have k3 := b2i_n0.mp c20
        have k5 := of_decide_eq_true k2
        obtain ⟨i, hi, hi2⟩ := hd_t k1 hok
        obtain ⟨sx, hs1, hs2⟩ : ∃ sx, b = nI sx ∧ sx < kSt K := ⟨b.toInt.toNat, (nI_tn (by omega) (by omega)).symm, by omega⟩
        obtain ⟨j, hj, hj4⟩ := sh_t k3
        obtain ⟨a1, a2, a3, a4⟩ := q.shs hj4
        refine r_aload_n (pc := 30) dX12_whose_30 rfl ?_
        refine r_getf (pc := 31) (k := 19) dX12_whose_31 hX12 eX12 (by decide) fX12_31 (fun _ q => mo hm q) rfl ?_
        refine r_iload_n (pc := 34) dX12_whose_34 rfl ?_
        rw [hj]
        refine r_ml (pc := 35) (i := 7) (j := j) hm dX12_whose_35 (by decide) (nI_T (by omega)) (show j < 4 by omega) ?_
        rw [a1]
        refine r_if_eq (pc := 36) 54 dX12_whose_36 (by decide) (fun c36 => ?_) (fun c36 => ?_)
        · skip
          have k6 : bt j = 0 ∨ ¬ (sh j).length = kRo K ∨ lbI (sh j) (nI (kMi K)) (nI (hMn hs i)) < 0 := Or.inl c36
          refine r_aload_n (pc := 54) dX12_whose_54 rfl ?_
          refine r_ldc (pc := 55) (v := (-1000000002)) dX12_whose_55 qX12_220 ?_
          refine r_Vi (pc := 57) (μ' := mX12_errs) dX12_whose_57 nX12_62 iX12_errs vX12_errs kX12_errs rfl rfl (rr (by decide) rfl) rfl ⟨Nat.zero_le _, Nat.zero_le _⟩ (fun _ q_ => cvq q_ (ct_M_errs hm 2 (by decide) (by decide))) ?_
          rw [show (-1000000002 : Int32) = -1000000000 - 2 from rfl]
          refine r_ireturn (pc := 60) (ty := .int) dX12_whose_60 rfl rfl ⟨Nat.zero_le _, Nat.zero_le _⟩ (fun gE hg => ?_)
          exact mR hg (e2 i sx j hi hi2 hs1 hs2 hj hj4 k6 _ _ (q.err (by decide) rfl))
        · skip
          refine r_aload_n (pc := 39) dX12_whose_39 rfl ?_
          refine r_getf (pc := 40) (k := 20) dX12_whose_40 hX12 eX12 (by decide) fX12_34 (fun _ q => mo hm q) rfl ?_
          refine r_iload_n (pc := 43) dX12_whose_43 rfl ?_
          refine r_ml (pc := 44) (i := 8) (j := j) hm dX12_whose_44 (by decide) (nI_T (by omega)) (show j < 4 by omega) ?_
          rw [a2]
          refine r_aload_n (pc := 45) dX12_whose_45 rfl ?_
          refine r_getf (pc := 46) (k := 0) dX12_whose_46 hX12 eX12 (by decide) fX12_7 (fun _ q => mo hm q) rfl ?_
          refine r_iconst (pc := 49) (v := 0) dX12_whose_49 (by decide) ?_
          refine r_ml (pc := 50) (i := 0) (j := 0) hm dX12_whose_50 (by decide) rfl (by decide) ?_
          rw [q.rk.1]
          refine r_icmp_eq (pc := 51) 61 dX12_whose_51 (by decide) (fun c51 => ?_) (fun c51 => ?_)
          · skip
            have k7 : (sh j).length = kRo K := (nI_eq (by omega) (by omega)).mp c51
            refine r_iconst (pc := 61) (v := 0) dX12_whose_61 (by decide) ?_
            refine r_istore (pc := 62) dX12_whose_62 (Nat.le_of_ble_eq_true rfl) rfl ?_
            dsimp only [lset]
            rw [hi, hs1]
            exact L i sx j hi hi2 hs1 hs2 hj hj4 c36 k7 0 (Nat.zero_le _) (fun y hy => absurd hy (Nat.not_lt_zero y)) s A q
          · skip
            have k6 : bt j = 0 ∨ ¬ (sh j).length = kRo K ∨ lbI (sh j) (nI (kMi K)) (nI (hMn hs i)) < 0 := Or.inr (Or.inl (fun x => c51 (by rw [x])))
            refine r_aload_n (pc := 54) dX12_whose_54 rfl ?_
            refine r_ldc (pc := 55) (v := (-1000000002)) dX12_whose_55 qX12_220 ?_
            refine r_Vi (pc := 57) (μ' := mX12_errs) dX12_whose_57 nX12_62 iX12_errs vX12_errs kX12_errs rfl rfl (rr (by decide) rfl) rfl ⟨Nat.zero_le _, Nat.zero_le _⟩ (fun _ q_ => cvq q_ (ct_M_errs hm 2 (by decide) (by decide))) ?_
            rw [show (-1000000002 : Int32) = -1000000000 - 2 from rfl]
            refine r_ireturn (pc := 60) (ty := .int) dX12_whose_60 rfl rfl ⟨Nat.zero_le _, Nat.zero_le _⟩ (fun gE hg => ?_)
            exact mR hg (e2 i sx j hi hi2 hs1 hs2 hj hj4 k6 _ _ (q.err (by decide) rfl))
      · skip
        have k3 := b2i_0.mp c20
        refine r_aload_n (pc := 23) dX12_whose_23 rfl ?_
        refine r_ldc (pc := 24) (v := (-1000000001)) dX12_whose_24 qX12_61 ?_
        refine r_Vi (pc := 26) (μ' := mX12_errs) dX12_whose_26 nX12_62 iX12_errs vX12_errs kX12_errs rfl rfl (rr (by decide) rfl) rfl ⟨Nat.zero_le _, Nat.zero_le _⟩ (fun _ q_ => cvq q_ (ct_M_errs hm 1 (by decide) (by decide))) ?_
        rw [show (-1000000001 : Int32) = -1000000000 - 1 from rfl]
        refine r_ireturn (pc := 29) (ty := .int) dX12_whose_29 rfl rfl ⟨Nat.zero_le _, Nat.zero_le _⟩ (fun gE hg => ?_)
        exact mR hg (e1 (by first | (rw [k1]; rfl) | (rw [k1, k2]; rfl) | (rw [k1, k2, k3]; rfl)) _ _ (q.err (by decide) rfl))
end Modds
