/-! THE REFERENCE, whole: called away, worst, how long, cans -/
def awV (K : CK) (hs : List (Nat × Nat)) (lD lL : List Int32) (i S n : Nat) : Nat := seenN (rG (hKd hs i) (hMn hs i) (noCan K) (fun i => i) (fun j => S / 2 ^ j % 2 * n) (kSt K)) (drL lD (kHe K)) (ltL lL)
theorem noCan_f (K : CK) : kRo (noCan K) = kRo K ∧ kSt (noCan K) = kSt K ∧ kHe (noCan K) = kHe K ∧ kMi (noCan K) = kMi K := ⟨rfl, rfl, rfl, rfl⟩
theorem awV_sum {K : CK} {hs : List (Nat × Nat)} {lD lL : List Int32} {i S n : Nat} : awV K hs lD lL i S n = sumN (fun s => SB (thR K hs i) lD lL s s (s + 1) (S / 2 ^ (s + 1) % 2 * n)) (kSt K - 1) := by
  have h := seen_pause (kd := hKd hs i) (m := hMn hs i) (K := noCan K) (δ := fun j => S / 2 ^ j % 2 * n) (dr := drL lD (kHe K)) (lt := ltL lL)
  obtain ⟨r1, r2, r3⟩ := rollsN_form (kd := hKd hs i) (m := hMn hs i) (K := noCan K) (kSt K)
  unfold awV
  rw [show kSt (noCan K) = kSt K from rfl] at h
  rw [h]
  refine sumN_ext _ fun s hs' => ?_
  unfold SB thR
  rw [show kHe (rollsN (hKd hs i) (hMn hs i) (noCan K) (kSt K)) = kHe K from r3, show kRo (rollsN (hKd hs i) (hMn hs i) (noCan K) (kSt K)) = kRo K from r1]
  rfl
theorem sumN_le {f : Nat → Nat} {b : Nat} (h : ∀ i, f i ≤ b) : ∀ n, sumN f n ≤ b * n
  | 0 => Nat.le_refl _
  | n + 1 => by have := sumN_le h n; have := h n; rw [sumN, Nat.mul_succ]; omega
theorem bit2_is : ∀ S, S < 64 → ∀ j, j < 6 → (nI S >>> (nI j &&& 31)) &&& 1 = nI (S / 2 ^ j % 2) := by decide +kernel
theorem pow2_is : ∀ s, s < 6 → ∀ j, j < 6 → 2 ^ s / 2 ^ j % 2 = if j = s then 1 else 0 := by decide +kernel
section Maway
variable {m : Nat} {h : AH} {K K2 : CK} {hs hs2 : List (Nat × Nat)} {tD tL tD2 tL2 : Option (List Int32)} {tp wa tp2 wa2 hd er lD lL : List Int32} {z im z2 : Int32} {k : MK} {bt : Nat → Int32} {sh : Nat → List Int32} {s s2 : Nat → Int32} {A A2 : Nat → Nat → Int32} {Q : Option Value → AH → Prop} {f : Nat → Int32}
theorem MG.back (q : MG K hs tD tL tp wa z k bt sh hd er im s A) (ok : KOk K) (hs4 : s2 4 = s 4 ∧ s2 5 = s 5 ∧ s2 9 = s 9 ∧ s2 26 = s 26) (hA : ∀ i, (i = 1 ∨ i = 4 ∨ i = 7 ∨ i = 8 ∨ i = 9 ∨ i = 13) → A2 i = A i) (h0 : ∀ j, j < 267 → A2 0 j = A 0 j) : MG K hs tD tL tp wa z k bt sh hd er im s2 A2 :=
  q.to hs4 hA (q.rk.ext ok fun j hj => h0 j (by omega)) (q.rr.e267 h0)
set_option maxHeartbeats 8000000 in
theorem ct_M_seenAway (hm : m + 14 < h.1) (q : MG K hs tD tL tp wa z k bt sh hd er im s A) (ok : KOk K) (tb : TB K 9999 9999) (hok : HOk hs) (hD : TR 0 tD lD) (hL : TR 1 tL lL) {i S n : Nat} (hi : i < hs.length) (hS : S < 64) (hn : n ≤ 500) : CV 46 0 0 mX12_seenAway m [.int (nI i), .int (nI S), .int (nI n)] (mh m h s A) (fun v g => v = some (.int (nI (awV K hs lD lL i S n))) ∧ ∃ s2 A2, MG K hs tD tL tp wa z k bt sh hd er im s2 A2 ∧ MP m h s2 A2 g) := by
  refine ⟨mV hm, ?_⟩
  refine ct_of (by decide) (fun _ _ => Nat.le_of_ble_eq_true rfl) ?_
  dsimp only [pad, ent]
  have hst : 1 ≤ kSt K ∧ kSt K ≤ 6 := ok.2.1
  have hTs := nI_T (n := kSt K) (by omega)
  have hh := hok.at hi
  obtain ⟨δ, hδ⟩ : ∃ δ : Nat → Nat, δ = fun j => S / 2 ^ j % 2 * n := ⟨_, rfl⟩
  have hδ5 : ∀ j, δ j ≤ n := by
    intro j
    rw [hδ]
    have : S / 2 ^ j % 2 ≤ 1 := by omega
    calc S / 2 ^ j % 2 * n ≤ 1 * n := Nat.mul_le_mul_right n this
      _ = n := Nat.one_mul n
  obtain ⟨X, hX⟩ : ∃ X : Nat → CK, X = rG (hKd hs i) (hMn hs i) (noCan K) (fun i => i) δ := ⟨_, rfl⟩
  have hXs : ∀ j, X (j + 1) = paintK (hKd hs i) (hMn hs i) j false (setMi (X j) (kMi (X j) + δ j)) := by intro j; rw [hX]; rfl
  have hXok : ∀ j, KOk (X j) ∧ kRo (X j) = kRo K ∧ kSt (X j) = kSt K ∧ kHe (X j) = kHe K := by
    intro j
    rw [hX]
    exact rG_ok (noCan_ok ok) j
  have hXtb : ∀ j, j ≤ 6 → TB (X j) (9999 + 6 * 536) 29000 := by
    intro j hj
    rw [hX]
    refine (rG_tb (D := n) (noCan_ok ok) (TB.noCan tb) hh.1 hh.2 hδ5 hn j (by omega)).mono ?_ (Nat.le_refl _)
    have : j * (n + 36) ≤ 6 * 536 := Nat.mul_le_mul hj (by omega)
    omega
  have hV : awV K hs lD lL i S n = seenN (X (kSt K)) (drL lD (kHe K)) (ltL lL) := by rw [hX, hδ]; rfl
  rw [hV]
  have L : ∀ j, j ≤ kSt K → ∀ s1 f : Nat → Int32, RMk (X j) f → (∀ y, RJ y → f y = A 0 y) → sEq 18 s s1 → AW (fun _ => True) (rmd 46 0 0) mX12_seenAway 0 0 15 [some (.ref m), some (.int (nI i)), some (.int (nI S)), some (.int (nI n)), some (.int (nI j))] [] (MP m h s1 (upA (upA A 2 (mvF (A 0) (A 2))) 0 f)) (fun v g => v = some (.int (nI (seenN (X (kSt K)) (drL lD (kHe K)) (ltL lL)))) ∧ ∃ s2 A2, MG K hs tD tL tp wa z k bt sh hd er im s2 A2 ∧ MP m h s2 A2 g) := by
    refine up_loop ?_ ?_
    · intro s1 f q1 q2 q3
      obtain ⟨x1, x2, x3, x4⟩ := hXok (kSt K)
      have rr2 := q.rr.ext q2
      have hse : SE (X (kSt K)) lD lL s1 (upA (upA A 2 (mvF (A 0) (A 2))) 0 f) := ⟨q1, ⟨tD, rr2.2.2.1, hD⟩, ⟨tL, rr2.2.2.2.1, hL⟩, Or.inl ((q3 9 (by omega)).trans q.2.2.1.2.2)⟩
      refine r_iload (pc := 15) dX12_seenAway_15 rfl ?_
      refine r_aload_n (pc := 17) dX12_seenAway_17 rfl ?_
      refine r_getf (pc := 18) (k := 0) dX12_seenAway_18 hX12 eX12 (by decide) fX12_7 (fun _ q => mo hm q) rfl ?_
      refine r_iconst (pc := 21) (v := 1) dX12_seenAway_21 (by decide) ?_
      refine r_rl (pc := 22) (j := 1) hm dX12_seenAway_22 rfl (by decide) ?_
      rw [q1.2.1, x3]
      refine r_icmp_ge (pc := 23) 57 dX12_seenAway_23 (by decide) (fun c23 => ?_) (fun c23 => ?_)
      · skip
        refine r_aload_n (pc := 57) dX12_seenAway_57 rfl ?_
        refine r_Vi (pc := 58) (μ' := mX12_seen) dX12_seenAway_58 nX12_211 iX12_seen vX12_seen kX12_seen rfl rfl (rr (by omega) rfl) rfl ⟨Nat.zero_le _, Nat.zero_le _⟩ (fun _ q_ => cvq q_ (ct_M_seen hm x1 ((hXtb _ (by omega)).wb (by omega)) hse)) ?_
        refine aw_ex fun s4 => aw_ex fun f6 => aw_pr fun q4 => ?_
        refine r_istore (pc := 61) dX12_seenAway_61 (Nat.le_of_ble_eq_true rfl) rfl ?_
        dsimp only [lset]
        refine r_aload_n (pc := 63) dX12_seenAway_63 rfl ?_
        refine r_aload_n (pc := 64) dX12_seenAway_64 rfl ?_
        refine r_getf (pc := 65) (k := 2) dX12_seenAway_65 hX12 eX12 (by decide) fX12_16 (fun _ q => mo hm q) rfl ?_
        refine r_aload_n (pc := 68) dX12_seenAway_68 rfl ?_
        refine r_getf (pc := 69) (k := 0) dX12_seenAway_69 hX12 eX12 (by decide) fX12_7 (fun _ q => mo hm q) rfl ?_
        refine r_Vv (pc := 72) (μ' := mX12_moveAll) dX12_seenAway_72 nX12_188 iX12_moveAll vX12_moveAll kX12_moveAll rfl rfl (rr (by omega) rfl) rfl ⟨Nat.zero_le _, Nat.zero_le _⟩ (fun _ q_ => cvq q_ (ct_M_moveAll hm 2 0 (by decide) (by decide) (by decide))) ?_
        refine r_iload (pc := 75) dX12_seenAway_75 rfl ?_
        rw [x4]
        refine r_ireturn (pc := 77) (ty := .int) dX12_seenAway_77 rfl rfl ⟨Nat.zero_le _, Nat.zero_le _⟩ (fun gE hg => ?_)
        refine ⟨rfl, _, _, q.back ok ⟨(q4.2 4 (by omega)).trans (q3 4 (by omega)), (q4.2 5 (by omega)).trans (q3 5 (by omega)), (q4.2 9 (by omega)).trans (q3 9 (by omega)), (q4.2 26 (by omega)).trans (q3 26 (by omega))⟩ (fun i hi => ?_) (fun j hj => ?_), hg⟩
        · rw [upA_n (by omega), upA_n (by omega), upA_n (by omega), upA_n (by omega)]
        · rw [upA_s]
          exact (if_pos hj).trans (if_pos hj)
      · skip
        exact absurd (fa_le.mpr (Int.le_refl _)) c23
    · intro j hj ih s1 f q1 q2 q3
      have hTj := nI_T (n := j) (by omega)
      obtain ⟨x1, x2, x3, x4⟩ := hXok j
      have hbit := bit2_is S hS j (by omega)
      have hδj : nI (S / 2 ^ j % 2) * nI n = nI (δ j) := by rw [hδ, pk_mul]
      have k4 : RMk (setMi (X j) (kMi (X j) + δ j)) (upd f 2 (nI (kMi (X j) + δ j))) := RMk_mi q1
      have ct := fun s1 (A9 : Nat → Nat → Int32) => ct_M_rollsBy (h := h) (A := A9) (s := s1) (up := false) hm hi hok (show RMh hs (upd f 2 (nI (kMi (X j) + δ j))) from (q.rr.ext (f2 := upd f 2 (nI (kMi (X j) + δ j))) (fun y hy => by rw [upd_n (by unfold RJ at hy; omega)]; exact q2 y hy)).2.1.1) (show j < kSt (setMi (X j) (kMi (X j) + δ j)) by rw [show kSt (setMi (X j) (kMi (X j) + δ j)) = kSt (X j) from rfl, x3]; exact hj) (setMi_ok x1) k4 (s18_any s1 _)
      refine r_iload (pc := 15) dX12_seenAway_15 rfl ?_
      refine r_aload_n (pc := 17) dX12_seenAway_17 rfl ?_
      refine r_getf (pc := 18) (k := 0) dX12_seenAway_18 hX12 eX12 (by decide) fX12_7 (fun _ q => mo hm q) rfl ?_
      refine r_iconst (pc := 21) (v := 1) dX12_seenAway_21 (by decide) ?_
      refine r_rl (pc := 22) (j := 1) hm dX12_seenAway_22 rfl (by decide) ?_
      rw [q1.2.1, x3]
      refine r_icmp_ge (pc := 23) 57 dX12_seenAway_23 (by decide) (fun c23 => ?_) (fun c23 => ?_)
      · skip
        exact absurd c23 (fun y => by have := fa_le.mp y; omega)
      · skip
        refine r_aload_n (pc := 26) dX12_seenAway_26 rfl ?_
        refine r_getf (pc := 27) (k := 0) dX12_seenAway_27 hX12 eX12 (by decide) fX12_7 (fun _ q => mo hm q) rfl ?_
        refine r_iconst (pc := 30) (v := 2) dX12_seenAway_30 (by decide) ?_
        refine r_dup2 (pc := 31) dX12_seenAway_31 rfl rfl ?_
        refine r_rl (pc := 32) (j := 2) hm dX12_seenAway_32 rfl (by decide) ?_
        rw [q1.2.2.1]
        refine r_iload_n (pc := 33) dX12_seenAway_33 rfl ?_
        refine r_iload (pc := 34) dX12_seenAway_34 rfl ?_
        refine r_ishr (pc := 36) dX12_seenAway_36 ?_
        refine r_iconst (pc := 37) (v := 1) dX12_seenAway_37 (by decide) ?_
        refine r_iand (pc := 38) dX12_seenAway_38 ?_
        rw [hbit]
        refine r_iload_n (pc := 39) dX12_seenAway_39 rfl ?_
        refine r_imul (pc := 40) dX12_seenAway_40 ?_
        rw [hδj]
        refine r_iadd (pc := 41) dX12_seenAway_41 ?_
        rw [nI_add]
        refine r_rs (pc := 42) (j := 2) hm dX12_seenAway_42 rfl (by decide) ?_
        refine r_aload_n (pc := 43) dX12_seenAway_43 rfl ?_
        refine r_iload_n (pc := 44) dX12_seenAway_44 rfl ?_
        refine r_iload (pc := 45) dX12_seenAway_45 rfl ?_
        refine r_iconst (pc := 47) (v := 0) dX12_seenAway_47 (by decide) ?_
        rw [show (0 : Int32) = b2i false from rfl]
        refine r_Vv (pc := 48) (μ' := mX12_rollsBy) dX12_seenAway_48 nX12_203 iX12_rollsBy vX12_rollsBy kX12_rollsBy rfl rfl (rr (by omega) rfl) rfl ⟨Nat.zero_le _, Nat.zero_le _⟩ (fun _ q_ => cvq q_ (ct _ _)) ?_
        refine aw_ex fun s5 => aw_ex fun f5 => aw_pr fun q5 => ?_
        refine r_iinc1 (pc := 51) dX12_seenAway_51 rfl (Nat.le_of_ble_eq_true rfl) rfl ?_
        dsimp only [lset]
        refine r_goto (pc := 54) 15 dX12_seenAway_54 (by decide) ?_
        rw [nI_1]
        exact ih s5 f5 (by rw [hXs]; exact q5.1) (fun y hy => by rw [q5.2.1 y hy, upd_n (by unfold RJ at hy; omega)]; exact q2 y hy) (fun y hy => (q5.2.2.2 y hy).trans (q3 y hy))
  refine aw_P (P' := MP m h s A) (fun _ q => q) ?_
  refine r_aload_n (pc := 0) dX12_seenAway_0 rfl ?_
  refine r_aload_n (pc := 1) dX12_seenAway_1 rfl ?_
  refine r_getf (pc := 2) (k := 0) dX12_seenAway_2 hX12 eX12 (by decide) fX12_7 (fun _ q => mo hm q) rfl ?_
  refine r_aload_n (pc := 5) dX12_seenAway_5 rfl ?_
  refine r_getf (pc := 6) (k := 2) dX12_seenAway_6 hX12 eX12 (by decide) fX12_16 (fun _ q => mo hm q) rfl ?_
  refine r_Vv (pc := 9) (μ' := mX12_moveAll) dX12_seenAway_9 nX12_188 iX12_moveAll vX12_moveAll kX12_moveAll rfl rfl (rr (by decide) rfl) rfl ⟨Nat.zero_le _, Nat.zero_le _⟩ (fun _ q_ => cvq q_ (ct_M_moveAll hm 0 2 (by decide) (by decide) (by decide))) ?_
  refine r_iconst (pc := 12) (v := 0) dX12_seenAway_12 (by decide) ?_
  refine r_istore (pc := 13) dX12_seenAway_13 (Nat.le_of_ble_eq_true rfl) rfl ?_
  dsimp only [lset]
  refine aw_P (P' := MP m h s (upA (upA A 2 (mvF (A 0) (A 2))) 0 (A 0))) (fun g q => by rw [show upA (upA A 2 (mvF (A 0) (A 2))) 0 (A 0) = upA A 2 (mvF (A 0) (A 2)) from upA_id (A := upA A 2 (mvF (A 0) (A 2))) (i := 0)]; exact q) ?_
  exact L 0 (Nat.zero_le _) s (A 0) (by rw [hX]; exact RMk_can q.rk) (fun y _ => rfl) (fun _ _ => rfl)
/-- what is seen with a pause ahead of one STRIP -/
def awS (R : CK) (lD lL : List Int32) (n sx st : Nat) : Nat := sumN (fun i => SB R lD lL i i (i + 1) (if i + 1 = sx then n else 0)) (st - 1)
theorem caI_eq {R : CK} {lD lL : List Int32} {n sx : Nat} (h6 : kSt R ≤ 6) (hsx : sx < 6) : ∀ j, j ≤ kSt R - 1 → caI (swL R lD lL 0 (kSt R - 1)) (swL R lD lL n (kSt R - 1)) (nI sx) j = nI (sumN (fun i => SB R lD lL i i (i + 1) (if i + 1 = sx then n else 0)) j)
  | 0 => fun _ => rfl
  | j + 1 => fun hj => by
    have e : ∀ n, atL (swL R lD lL n (kSt R - 1)) (nI (j + 1)) = nI (SB R lD lL j j (j + 1) n) := by
      intro n
      rw [atL_nI (by omega)]
      exact wpL_at (by omega) (by omega) _ (by omega)
    rw [caI, caI_eq h6 hsx j (by omega), e, e, sumN]
    by_cases c : j + 1 = sx
    · rw [if_pos (by rw [c]), if_pos c, nI_add]
    · rw [if_neg (fun x => c ((nI_eq (by omega) (by omega)).mp x)), if_neg c, nI_add]
theorem caG_eq {R : CK} {lD lL : List Int32} {n sx : Nat} (h6 : kSt R ≤ 6) (hsx : sx < 6) : caG R lD lL n (nI sx) = nI (awS R lD lL n sx (kSt R)) := caI_eq h6 hsx _ (Nat.le_refl _)
theorem awV_S {i n sx : Nat} (ok : KOk K) (hsx : sx < kSt K) : awV K hs lD lL i (2 ^ sx) n = awS (thR K hs i) lD lL n sx (kSt K) := by
  have h6 : kSt K ≤ 6 := ok.2.1.2
  rw [awV_sum]
  refine sumN_ext _ fun j hj => ?_
  rw [pow2_is sx (by omega) (j + 1) (by omega)]
  by_cases c : j + 1 = sx
  · rw [if_pos c, if_pos c, Nat.one_mul]
  · rw [if_neg c, if_neg c, Nat.zero_mul]
set_option maxHeartbeats 4000000 in
theorem cm_called (hm : m + 14 < h.1) {a b c : Int32} (q : MG K hs tD tL tp wa z k bt sh hd er im s A) (ok : KOk K) (tb : TB K 9999 9999) (hok : HOk hs) (hD : TR 0 tD lD) (hL : TR 1 tL lL) (e1 : (hdB hs a && laB K b && wiB c 0 500) = false → ∀ s2 A2, MG K hs tD tL tp wa z k bt sh hd (errL er 1) im s2 A2 → Q (some (.int (-1000000000 - 1))) (mh m h s2 A2)) (hP : ∀ i n, a = nI i → i < hs.length → laB K b = true → c = nI n → n ≤ 500 → ∀ s2 A2, MG K hs tD tL tp wa z k bt sh hd er im s2 A2 → Q (some (.int (caG (thR K hs i) lD lL n b))) (mh m h s2 A2)) : CV 50 0 0 mX12_called m [.int a, .int b, .int c] (mh m h s A) Q := by
  refine ⟨mV hm, ?_⟩
  refine ct_of (by decide) (fun _ _ => Nat.le_of_ble_eq_true rfl) ?_
  dsimp only [pad, ent]
  have hst : 1 ≤ kSt K ∧ kSt K ≤ 6 := ok.2.1
  refine aw_P (P' := MP m h s A) (fun _ q => q) ?_
  refine r_aload_n (pc := 0) dX12_called_0 rfl ?_
  refine r_iload_n (pc := 1) dX12_called_1 rfl ?_
  refine r_Vi (pc := 2) (μ' := mX12_isHand) dX12_called_2 nX12_98 iX12_isHand vX12_isHand kX12_isHand rfl rfl (rr (by omega) rfl) rfl ⟨Nat.zero_le _, Nat.zero_le _⟩ (fun _ q_ => cvq q_ (ct_M_isHand hm)) ?_
  rw [q.hb]
  refine r_if_eq (pc := 5) 39 dX12_called_5 (by decide) (fun c5 => ?_) (fun c5 => ?_)
  · skip
    have k1 := b2i_0.mp c5
    refine r_aload_n (pc := 39) dX12_called_39 rfl ?_
    refine r_ldc (pc := 40) (v := (-1000000001)) dX12_called_40 qX12_61 ?_
    refine r_Vi (pc := 42) (μ' := mX12_errs) dX12_called_42 nX12_62 iX12_errs vX12_errs kX12_errs rfl rfl (rr (by omega) rfl) rfl ⟨Nat.zero_le _, Nat.zero_le _⟩ (fun _ q_ => cvq q_ (ct_M_errs hm 1 (by decide) (by decide))) ?_
    rw [show (-1000000001 : Int32) = -1000000000 - 1 from rfl]
    refine r_ireturn (pc := 45) (ty := .int) dX12_called_45 rfl rfl ⟨Nat.zero_le _, Nat.zero_le _⟩ (fun gE hg => ?_)
    first
    | exact mR hg (h7 _ _ q4)
    | exact mR hg (e1 (by first | (rw [k1]; rfl) | (rw [k1, k2]; rfl) | (rw [k1, k2, k3]; rfl)) _ _ (q.err (by decide) rfl))
  · skip
    have k1 := b2i_n0.mp c5
    refine r_aload_n (pc := 8) dX12_called_8 rfl ?_
    refine r_iload_n (pc := 9) dX12_called_9 rfl ?_
    refine r_Vi (pc := 10) (μ' := mX12_isLater) dX12_called_10 nX12_234 iX12_isLater vX12_isLater kX12_isLater rfl rfl (rr (by omega) rfl) rfl ⟨Nat.zero_le _, Nat.zero_le _⟩ (fun _ q_ => cvq q_ (ct_M_isLater hm)) ?_
    rw [q.lab ok]
    refine r_if_eq (pc := 13) 39 dX12_called_13 (by decide) (fun c13 => ?_) (fun c13 => ?_)
    · skip
      have k2 := b2i_0.mp c13
      refine r_aload_n (pc := 39) dX12_called_39 rfl ?_
      refine r_ldc (pc := 40) (v := (-1000000001)) dX12_called_40 qX12_61 ?_
      refine r_Vi (pc := 42) (μ' := mX12_errs) dX12_called_42 nX12_62 iX12_errs vX12_errs kX12_errs rfl rfl (rr (by omega) rfl) rfl ⟨Nat.zero_le _, Nat.zero_le _⟩ (fun _ q_ => cvq q_ (ct_M_errs hm 1 (by decide) (by decide))) ?_
      rw [show (-1000000001 : Int32) = -1000000000 - 1 from rfl]
      refine r_ireturn (pc := 45) (ty := .int) dX12_called_45 rfl rfl ⟨Nat.zero_le _, Nat.zero_le _⟩ (fun gE hg => ?_)
      first
      | exact mR hg (h7 _ _ q4)
      | exact mR hg (e1 (by first | (rw [k1]; rfl) | (rw [k1, k2]; rfl) | (rw [k1, k2, k3]; rfl)) _ _ (q.err (by decide) rfl))
    · skip
      have k2 := b2i_n0.mp c13
      refine r_iload_n (pc := 16) dX12_called_16 rfl ?_
      refine r_iconst (pc := 17) (v := 0) dX12_called_17 (by decide) ?_
      refine r_sipush (pc := 18) (v := 500) dX12_called_18 (by decide) ?_
      refine r_Sp (pc := 21) (μ' := mX12_in) dX12_called_21 nX12_57 sX12_in kX12_in rfl rfl (rr (by omega) rfl) rfl ⟨Nat.zero_le _, Nat.zero_le _⟩ (fun h => ct_M_in h) ?_
      refine r_if_eq (pc := 24) 39 dX12_called_24 (by decide) (fun c24 => ?_) (fun c24 => ?_)
      · skip
        have k3 := b2i_0.mp c24
        refine r_aload_n (pc := 39) dX12_called_39 rfl ?_
        refine r_ldc (pc := 40) (v := (-1000000001)) dX12_called_40 qX12_61 ?_
        refine r_Vi (pc := 42) (μ' := mX12_errs) dX12_called_42 nX12_62 iX12_errs vX12_errs kX12_errs rfl rfl (rr (by omega) rfl) rfl ⟨Nat.zero_le _, Nat.zero_le _⟩ (fun _ q_ => cvq q_ (ct_M_errs hm 1 (by decide) (by decide))) ?_
        rw [show (-1000000001 : Int32) = -1000000000 - 1 from rfl]
        refine r_ireturn (pc := 45) (ty := .int) dX12_called_45 rfl rfl ⟨Nat.zero_le _, Nat.zero_le _⟩ (fun gE hg => ?_)
        first
        | exact mR hg (h7 _ _ q4)
        | exact mR hg (e1 (by first | (rw [k1]; rfl) | (rw [k1, k2]; rfl) | (rw [k1, k2, k3]; rfl)) _ _ (q.err (by decide) rfl))
      · skip
        have k3 := b2i_n0.mp c24
        obtain ⟨i, hi, hi2⟩ := hd_t k1 hok
        obtain ⟨n, hn, hn2⟩ := wi_nat k3 (by decide)
        have hn3 : n ≤ 500 := by rw [show (500 : Int32).toInt = 500 from rfl] at hn2; omega
        have k4 := of_decide_eq_true k2
        obtain ⟨sx, hs1, hs2⟩ : ∃ sx, b = nI sx ∧ sx < kSt K := ⟨b.toInt.toNat, (nI_tn (by omega) (by omega)).symm, by omega⟩
        have h7 := hP i n hi hi2 k2 hn hn3
        rw [hs1, caG_eq (by rw [show kSt (thR K hs i) = kSt K from (rollsN_form _).2.1]; omega) (by omega), show kSt (thR K hs i) = kSt K from (rollsN_form _).2.1, ← awV_S ok hs2] at h7
        refine r_aload_n (pc := 27) dX12_called_27 rfl ?_
        refine r_iload_n (pc := 28) dX12_called_28 rfl ?_
        refine r_iconst (pc := 29) (v := 1) dX12_called_29 (by decide) ?_
        refine r_iload_n (pc := 30) dX12_called_30 rfl ?_
        refine r_ishl (pc := 31) dX12_called_31 ?_
        rw [hs1, shl_is sx (by omega)]
        refine r_iload_n (pc := 32) dX12_called_32 rfl ?_
        rw [hi, hn]
        refine r_Vi (pc := 33) (μ' := mX12_seenAway) dX12_called_33 nX12_237 iX12_seenAway vX12_seenAway kX12_seenAway rfl rfl (rr (by omega) rfl) rfl ⟨Nat.zero_le _, Nat.zero_le _⟩ (fun _ q_ => cvq q_ (ct_M_seenAway hm q ok tb hok hD hL hi2 (by have : 2 ^ sx ≤ 32 := p2_le (by omega); omega) hn3)) ?_
        refine aw_ex fun s4 => aw_ex fun A4 => aw_pr fun q4 => ?_
        refine r_goto (pc := 36) 45 dX12_called_36 (by decide) ?_
        refine r_ireturn (pc := 45) (ty := .int) dX12_called_45 rfl rfl ⟨Nat.zero_le _, Nat.zero_le _⟩ (fun gE hg => ?_)
        first
        | exact mR hg (h7 _ _ q4)
        | exact mR hg (e1 (by first | (rw [k1]; rfl) | (rw [k1, k2]; rfl) | (rw [k1, k2, k3]; rfl)) _ _ (q.err (by decide) rfl))
theorem sumN_one {g : Nat → Nat} {a x : Nat} : ∀ n, a < n → sumN (fun i => if i = a then x else g i) n + g a = sumN g n + x
  | 0 => fun h => absurd h (Nat.not_lt_zero a)
  | n + 1 => fun h => by
    by_cases e : a = n
    · subst e
      rw [sumN, sumN, if_pos rfl, sumN_ext (g := g) a (fun i hi => if_neg (by omega))]
      omega
    · rw [sumN, sumN, if_neg (by omega)]
      have := sumN_one (g := g) (a := a) (x := x) n (by omega)
      omega
theorem awS_le {R : CK} {n sx st : Nat} (h1 : 1 ≤ sx) (h2 : sx < st) : awS R lD lL n sx st + SB R lD lL (sx - 1) (sx - 1) sx 0 = sumN (fun i => SB R lD lL i i (i + 1) 0) (st - 1) + SB R lD lL (sx - 1) (sx - 1) sx n := by
  have := sumN_one (g := fun i => SB R lD lL i i (i + 1) 0) (a := sx - 1) (x := SB R lD lL (sx - 1) (sx - 1) sx n) (st - 1) (by omega)
  rw [show sx - 1 + 1 = sx by omega] at this
  rw [← this]
  congr 1
  refine sumN_ext _ fun i hi => ?_
  by_cases e : i + 1 = sx
  · rw [if_pos e, if_pos (by omega), show i = sx - 1 by omega, show sx - 1 + 1 = sx by omega]
  · rw [if_neg e, if_neg (by omega)]
theorem awV_0 {i n : Nat} : awV K hs lD lL i 0 n = sumN (fun j => SB (thR K hs i) lD lL j j (j + 1) 0) (kSt K - 1) := by
  rw [awV_sum]
  refine sumN_ext _ fun j hj => ?_
  rw [Nat.zero_div, Nat.zero_mod, Nat.zero_mul]
theorem awV_le {i S n : Nat} (ok : KOk K) (okR : KOk (thR K hs i)) : awV K hs lD lL i S n ≤ 4000 := by
  have h6 : kSt K ≤ 6 := ok.2.1.2
  rw [awV_sum]
  have := sumN_le (f := fun s => SB (thR K hs i) lD lL s s (s + 1) (S / 2 ^ (s + 1) % 2 * n)) (b := 600) (fun j => SB_le okR lD lL j j (j + 1) _) (kSt K - 1)
  omega
set_option maxHeartbeats 4000000 in
theorem cm_howLong (hm : m + 14 < h.1) {a b : Int32} (q : MG K hs tD tL tp wa z k bt sh hd er im s A) (ok : KOk K) (tb : TB K 9999 9999) (hok : HOk hs) (hD : TR 0 tD lD) (hL : TR 1 tL lL) (e1 : (hdB hs a && laB K b) = false → ∀ s2 A2, MG K hs tD tL tp wa z k bt sh hd (errL er 1) im s2 A2 → Q (some (.int (-1000000000 - 1))) (mh m h s2 A2)) (hP : ∀ i sx, a = nI i → i < hs.length → b = nI sx → 1 ≤ sx → sx < kSt K → ∀ s2 A2, MG K hs tD tL tp wa z k bt sh hd er im s2 A2 → Q (some (.int (nI (lpN (SB (thR K hs i) lD lL (sx - 1) (sx - 1) sx) 500)))) (mh m h s2 A2)) : CV 50 0 0 mX12_howLong m [.int a, .int b] (mh m h s A) Q := by
  refine ⟨mV hm, ?_⟩
  refine ct_of (by decide) (fun _ _ => Nat.le_of_ble_eq_true rfl) ?_
  dsimp only [pad, ent]
  have hst : 1 ≤ kSt K ∧ kSt K ≤ 6 := ok.2.1
  have L : ∀ i sx, a = nI i → i < hs.length → b = nI sx → 1 ≤ sx → sx < kSt K → ∀ n, n ≤ 500 → lpN (SB (thR K hs i) lD lL (sx - 1) (sx - 1) sx) n = lpN (SB (thR K hs i) lD lL (sx - 1) (sx - 1) sx) 500 → ∀ s1 A1, MG K hs tD tL tp wa z k bt sh hd er im s1 A1 → AW (fun _ => True) (rmd 50 0 0) mX12_howLong 0 0 36 [some (.ref m), some (.int (nI i)), some (.int (nI sx)), some (.int (nI (awV K hs lD lL i 0 0))), some (.int (nI n))] [] (MP m h s1 A1) Q := by
    intro i sx hi hi2 hs1 h1 hs2 n
    have h7 := hP i sx hi hi2 hs1 h1 hs2
    have okR := (thR_ok ok tb hok hi2).1
    have hV0 := awV_le (lD := lD) (lL := lL) (S := 0) (n := 0) ok okR
    have hT0 := nI_T hV0
    induction n with
    | zero =>
      intro _ e s1 A1 q1
      refine r_iload (pc := 36) dX12_howLong_36 rfl ?_
      refine r_if_le (pc := 38) 61 dX12_howLong_38 (by decide) (fun c38 => ?_) (fun c38 => ?_)
      · skip
        refine r_iload (pc := 61) dX12_howLong_61 rfl ?_
        refine r_ireturn (pc := 63) (ty := .int) dX12_howLong_63 rfl rfl ⟨Nat.zero_le _, Nat.zero_le _⟩ (fun gE hg => ?_)
        exact mR hg (by rw [← e] at h7; exact h7 _ _ q1)
      · skip
        exact absurd (by decide) c38
    | succ n ih =>
      intro hn e s1 A1 q1
      have hT := nI_T (n := n + 1) (by omega)
      have hV1 := awV_le (lD := lD) (lL := lL) (S := 2 ^ sx) (n := n + 1) ok okR
      have hT1 := nI_T hV1
      have hcmp : awV K hs lD lL i (2 ^ sx) (n + 1) ≤ awV K hs lD lL i 0 0 ↔ SB (thR K hs i) lD lL (sx - 1) (sx - 1) sx (n + 1) ≤ SB (thR K hs i) lD lL (sx - 1) (sx - 1) sx 0 := by
        have := awS_le (R := thR K hs i) (lD := lD) (lL := lL) (n := n + 1) h1 hs2
        rw [awV_S ok hs2, awV_0]
        omega
      change (if SB (thR K hs i) lD lL (sx - 1) (sx - 1) sx (n + 1) ≤ SB (thR K hs i) lD lL (sx - 1) (sx - 1) sx 0 then n + 1 else lpN (SB (thR K hs i) lD lL (sx - 1) (sx - 1) sx) n) = _ at e
      refine r_iload (pc := 36) dX12_howLong_36 rfl ?_
      refine r_if_le (pc := 38) 61 dX12_howLong_38 (by decide) (fun c38 => ?_) (fun c38 => ?_)
      · skip
        exact absurd c38 (fun y => by have := fa_le.mp y; rw [hT, t0] at this; omega)
      · skip
        refine r_aload_n (pc := 41) dX12_howLong_41 rfl ?_
        refine r_iload_n (pc := 42) dX12_howLong_42 rfl ?_
        refine r_iconst (pc := 43) (v := 1) dX12_howLong_43 (by decide) ?_
        refine r_iload_n (pc := 44) dX12_howLong_44 rfl ?_
        refine r_ishl (pc := 45) dX12_howLong_45 ?_
        rw [shl_is sx (by omega)]
        refine r_iload (pc := 46) dX12_howLong_46 rfl ?_
        refine r_Vi (pc := 48) (μ' := mX12_seenAway) dX12_howLong_48 nX12_237 iX12_seenAway vX12_seenAway kX12_seenAway rfl rfl (rr (by omega) rfl) rfl ⟨Nat.zero_le _, Nat.zero_le _⟩ (fun _ q_ => cvq q_ (ct_M_seenAway hm q1 ok tb hok hD hL hi2 (by have : 2 ^ sx ≤ 32 := p2_le (by omega); omega) hn)) ?_
        refine aw_ex fun s4 => aw_ex fun A4 => aw_pr fun q4 => ?_
        refine r_iload_n (pc := 51) dX12_howLong_51 rfl ?_
        refine r_icmp_le (pc := 52) 61 dX12_howLong_52 (by decide) (fun c52 => ?_) (fun c52 => ?_)
        · skip
          have k1 := fa_le.mp c52
          rw [hT1, hT0] at k1
          rw [if_pos (hcmp.mp (by omega))] at e
          refine r_iload (pc := 61) dX12_howLong_61 rfl ?_
          refine r_ireturn (pc := 63) (ty := .int) dX12_howLong_63 rfl rfl ⟨Nat.zero_le _, Nat.zero_le _⟩ (fun gE hg => ?_)
          exact mR hg (by rw [← e] at h7; exact h7 _ _ q4)
        · skip
          have k1 : ¬ awV K hs lD lL i (2 ^ sx) (n + 1) ≤ awV K hs lD lL i 0 0 := fun y => c52 (fa_le.mpr (by rw [hT1, hT0]; omega))
          rw [if_neg (fun y => k1 (hcmp.mpr y))] at e
          refine r_iincm (pc := 55) dX12_howLong_55 rfl (Nat.le_of_ble_eq_true rfl) rfl ?_
          dsimp only [lset]
          refine r_goto (pc := 58) 36 dX12_howLong_58 (by decide) ?_
          rw [nI_pred]
          exact ih (by omega) e s4 A4 q4
  refine aw_P (P' := MP m h s A) (fun _ q => q) ?_
  refine r_aload_n (pc := 0) dX12_howLong_0 rfl ?_
  refine r_iload_n (pc := 1) dX12_howLong_1 rfl ?_
  refine r_Vi (pc := 2) (μ' := mX12_isHand) dX12_howLong_2 nX12_98 iX12_isHand vX12_isHand kX12_isHand rfl rfl (rr (by omega) rfl) rfl ⟨Nat.zero_le _, Nat.zero_le _⟩ (fun _ q_ => cvq q_ (ct_M_isHand hm)) ?_
  rw [q.hb]
  refine r_if_eq (pc := 5) 16 dX12_howLong_5 (by decide) (fun c5 => ?_) (fun c5 => ?_)
  · skip
    have k1 := b2i_0.mp c5
    refine r_aload_n (pc := 16) dX12_howLong_16 rfl ?_
    refine r_ldc (pc := 17) (v := (-1000000001)) dX12_howLong_17 qX12_61 ?_
    refine r_Vi (pc := 19) (μ' := mX12_errs) dX12_howLong_19 nX12_62 iX12_errs vX12_errs kX12_errs rfl rfl (rr (by omega) rfl) rfl ⟨Nat.zero_le _, Nat.zero_le _⟩ (fun _ q_ => cvq q_ (ct_M_errs hm 1 (by decide) (by decide))) ?_
    rw [show (-1000000001 : Int32) = -1000000000 - 1 from rfl]
    refine r_ireturn (pc := 22) (ty := .int) dX12_howLong_22 rfl rfl ⟨Nat.zero_le _, Nat.zero_le _⟩ (fun gE hg => ?_)
    exact mR hg (e1 (by first | (rw [k1]; rfl) | (rw [k1, k2]; rfl)) _ _ (q.err (by decide) rfl))
  · skip
    have k1 := b2i_n0.mp c5
    refine r_aload_n (pc := 8) dX12_howLong_8 rfl ?_
    refine r_iload_n (pc := 9) dX12_howLong_9 rfl ?_
    refine r_Vi (pc := 10) (μ' := mX12_isLater) dX12_howLong_10 nX12_234 iX12_isLater vX12_isLater kX12_isLater rfl rfl (rr (by omega) rfl) rfl ⟨Nat.zero_le _, Nat.zero_le _⟩ (fun _ q_ => cvq q_ (ct_M_isLater hm)) ?_
    rw [q.lab ok]
    refine r_if_ne (pc := 13) 23 dX12_howLong_13 (by decide) (fun c13 => ?_) (fun c13 => ?_)
    · skip
      have k2 := b2i_n0.mp c13
      obtain ⟨i, hi, hi2⟩ := hd_t k1 hok
      have k4 := of_decide_eq_true k2
      obtain ⟨sx, hs1, h1, hs2⟩ : ∃ sx, b = nI sx ∧ 1 ≤ sx ∧ sx < kSt K := ⟨b.toInt.toNat, (nI_tn (by omega) (by omega)).symm, by omega, by omega⟩
      refine r_aload_n (pc := 23) dX12_howLong_23 rfl ?_
      refine r_iload_n (pc := 24) dX12_howLong_24 rfl ?_
      refine r_iconst (pc := 25) (v := 0) dX12_howLong_25 (by decide) ?_
      refine r_iconst (pc := 26) (v := 0) dX12_howLong_26 (by decide) ?_
      rw [hi, show (0 : Int32) = nI 0 from rfl]
      refine r_Vi (pc := 27) (μ' := mX12_seenAway) dX12_howLong_27 nX12_237 iX12_seenAway vX12_seenAway kX12_seenAway rfl rfl (rr (by omega) rfl) rfl ⟨Nat.zero_le _, Nat.zero_le _⟩ (fun _ q_ => cvq q_ (ct_M_seenAway hm q ok tb hok hD hL hi2 (by omega) (by omega))) ?_
      refine aw_ex fun s4 => aw_ex fun A4 => aw_pr fun q4 => ?_
      refine r_istore_n (pc := 30) dX12_howLong_30 rfl (Nat.le_of_ble_eq_true rfl) rfl ?_
      dsimp only [lset]
      refine r_sipush (pc := 31) (v := 500) dX12_howLong_31 (by decide) ?_
      refine r_istore (pc := 34) dX12_howLong_34 (Nat.le_of_ble_eq_true rfl) rfl ?_
      dsimp only [lset]
      rw [hs1, show (500 : Int32) = nI 500 from rfl]
      exact L i sx hi hi2 hs1 h1 hs2 500 (by omega) rfl s4 A4 q4
    · skip
      have k2 := b2i_0.mp c13
      refine r_aload_n (pc := 16) dX12_howLong_16 rfl ?_
      refine r_ldc (pc := 17) (v := (-1000000001)) dX12_howLong_17 qX12_61 ?_
      refine r_Vi (pc := 19) (μ' := mX12_errs) dX12_howLong_19 nX12_62 iX12_errs vX12_errs kX12_errs rfl rfl (rr (by omega) rfl) rfl ⟨Nat.zero_le _, Nat.zero_le _⟩ (fun _ q_ => cvq q_ (ct_M_errs hm 1 (by decide) (by decide))) ?_
      rw [show (-1000000001 : Int32) = -1000000000 - 1 from rfl]
      refine r_ireturn (pc := 22) (ty := .int) dX12_howLong_22 rfl rfl ⟨Nat.zero_le _, Nat.zero_le _⟩ (fun gE hg => ?_)
      exact mR hg (e1 (by first | (rw [k1]; rfl) | (rw [k1, k2]; rfl)) _ _ (q.err (by decide) rfl))
set_option maxHeartbeats 4000000 in
theorem cm_worst (hm : m + 14 < h.1) {a b c : Int32} (q : MG K hs tD tL tp wa z k bt sh hd er im s A) (ok : KOk K) (tb : TB K 9999 9999) (hok : HOk hs) (hD : TR 0 tD lD) (hL : TR 1 tL lL) (e1 : (hdB hs a && wiB b 0 500 && wiB c 0 1) = false → ∀ s2 A2, MG K hs tD tL tp wa z k bt sh hd (errL er 1) im s2 A2 → Q (some (.int (-1000000000 - 1))) (mh m h s2 A2)) (e2 : (hdB hs a && wiB b 0 500 && wiB c 0 1) = true → kSt K = 1 → ∀ s2 A2, MG K hs tD tL tp wa z k bt sh hd (errL er 2) im s2 A2 → Q (some (.int (-1000000000 - 2))) (mh m h s2 A2)) (hP : ∀ i n, a = nI i → i < hs.length → b = nI n → n ≤ 500 → wiB c 0 1 = true → 2 ≤ kSt K → ∀ s2 A2, MG K hs tD tL tp wa z k bt sh hd er im s2 A2 → Q (some (.int (if c = 0 then nI (woG (thR K hs i) lD lL n) else caG (thR K hs i) lD lL n (nI (woG (thR K hs i) lD lL n))))) (mh m h s2 A2)) : CV 50 0 0 mX12_worst m [.int a, .int b, .int c] (mh m h s A) Q := by
  refine ⟨mV hm, ?_⟩
  refine ct_of (by decide) (fun _ _ => Nat.le_of_ble_eq_true rfl) ?_
  dsimp only [pad, ent]
  have hst : 1 ≤ kSt K ∧ kSt K ≤ 6 := ok.2.1
  have hTs := nI_T (n := kSt K) (by omega)
  have Z : ∀ i n, a = nI i → i < hs.length → b = nI n → n ≤ 500 → wiB c 0 1 = true → 2 ≤ kSt K → ∃ wo : Nat → Nat, (∀ x, 1 ≤ wo x ∧ wo x ≤ x + 1) ∧ wo 0 = 1 ∧ (∀ x, x + 2 < kSt K → wo (x + 1) = if awV K hs lD lL i (2 ^ wo x) n < awV K hs lD lL i (2 ^ (x + 2)) n then x + 2 else wo x) ∧ (∀ s2 A2, MG K hs tD tL tp wa z k bt sh hd er im s2 A2 → Q (some (.int (if c = 0 then nI (wo (kSt K - 2)) else nI (awV K hs lD lL i (2 ^ wo (kSt K - 2)) n)))) (mh m h s2 A2)) := by
    intro i n hi hi2 hb hn hc h2
    have h7 := hP i n hi hi2 hb hn hc h2
    have eR : kSt (thR K hs i) = kSt K := (rollsN_form _).2.1
    have okR := (thR_ok ok tb hok hi2).1
    have hcv : ∀ sx, sx < kSt K → caI (swL (thR K hs i) lD lL 0 (kSt K - 1)) (swL (thR K hs i) lD lL n (kSt K - 1)) (nI sx) (kSt K - 1) = nI (awV K hs lD lL i (2 ^ sx) n) := by
      intro sx hsx
      have := caI_eq (R := thR K hs i) (lD := lD) (lL := lL) (n := n) (sx := sx) (by omega) (by omega) (kSt K - 1) (by omega)
      rw [eR] at this
      rw [this, awV_S ok hsx]
      rfl
    refine ⟨woI (swL (thR K hs i) lD lL 0 (kSt K - 1)) (swL (thR K hs i) lD lL n (kSt K - 1)) (kSt K), fun x => woI_le x, rfl, fun x hx => ?_, fun s2 A2 q2 => ?_⟩
    · have hw := woI_le (sw := swL (thR K hs i) lD lL 0 (kSt K - 1)) (sx := swL (thR K hs i) lD lL n (kSt K - 1)) (st := kSt K) x
      rw [woI, hcv _ (by omega), hcv _ (by omega)]
      have g1 := awV_le (lD := lD) (lL := lL) (S := 2 ^ (x + 2)) (n := n) ok okR
      have g2 := awV_le (lD := lD) (lL := lL) (S := 2 ^ woI (swL (thR K hs i) lD lL 0 (kSt K - 1)) (swL (thR K hs i) lD lL n (kSt K - 1)) (kSt K) x) (n := n) ok okR
      by_cases e : awV K hs lD lL i (2 ^ woI (swL (thR K hs i) lD lL 0 (kSt K - 1)) (swL (thR K hs i) lD lL n (kSt K - 1)) (kSt K) x) n < awV K hs lD lL i (2 ^ (x + 2)) n
      · rw [if_pos e, if_pos ((lt_nI2 g2 g1).mpr e)]
      · rw [if_neg e, if_neg (fun y => e ((lt_nI2 g2 g1).mp y))]
    · have h8 := h7 s2 A2 q2
      have hw := woI_le (sw := swL (thR K hs i) lD lL 0 (kSt K - 1)) (sx := swL (thR K hs i) lD lL n (kSt K - 1)) (st := kSt K) (kSt K - 2)
      unfold woG caG at h8
      rw [eR, hcv _ (by omega)] at h8
      exact h8
  have L : ∀ i n, a = nI i → i < hs.length → b = nI n → n ≤ 500 → 2 ≤ kSt K → ∀ wo : Nat → Nat, (∀ x, 1 ≤ wo x ∧ wo x ≤ x + 1) → wo 0 = 1 → (∀ x, x + 2 < kSt K → wo (x + 1) = if awV K hs lD lL i (2 ^ wo x) n < awV K hs lD lL i (2 ^ (x + 2)) n then x + 2 else wo x) → (∀ s2 A2, MG K hs tD tL tp wa z k bt sh hd er im s2 A2 → Q (some (.int (if c = 0 then nI (wo (kSt K - 2)) else nI (awV K hs lD lL i (2 ^ wo (kSt K - 2)) n)))) (mh m h s2 A2)) → ∀ x, x ≤ kSt K → 1 ≤ x → ∀ (s1 : Nat → Int32) (A1 : Nat → Nat → Int32) (W M : Int32), MG K hs tD tL tp wa z k bt sh hd er im s1 A1 → (x = 1 ∧ W = 0 ∧ M = -1 ∨ 2 ≤ x ∧ W = nI (wo (x - 2)) ∧ M = nI (awV K hs lD lL i (2 ^ wo (x - 2)) n)) → AW (fun _ => True) (rmd 50 0 0) mX12_worst 0 0 61 [some (.ref m), some (.int (nI i)), some (.int (nI n)), some (.int c), some (.int W), some (.int M), some (.int (nI x)), none] [] (MP m h s1 A1) Q := by
    intro i n hi hi2 hb hn h2 wo w1 w0 ws h7
    have okR := (thR_ok ok tb hok hi2).1
    refine up_loop ?_ ?_
    · intro _ s1 A1 W M q1 hx
      have hx2 : W = nI (wo (kSt K - 2)) ∧ M = nI (awV K hs lD lL i (2 ^ wo (kSt K - 2)) n) := by
        rcases hx with e | e
        · omega
        · exact e.2
      rw [hx2.1, hx2.2]
      refine r_iload (pc := 61) dX12_worst_61 rfl ?_
      refine r_aload_n (pc := 63) dX12_worst_63 rfl ?_
      refine r_getf (pc := 64) (k := 0) dX12_worst_64 hX12 eX12 (by decide) fX12_7 (fun _ q => mo hm q) rfl ?_
      refine r_iconst (pc := 67) (v := 1) dX12_worst_67 (by decide) ?_
      refine r_ml (pc := 68) (i := 0) (j := 1) hm dX12_worst_68 (by decide) rfl (by decide) ?_
      rw [q1.rk.2.1]
      refine r_icmp_ge (pc := 69) 122 dX12_worst_69 (by decide) (fun c69 => ?_) (fun c69 => ?_)
      · skip
        refine r_iload_n (pc := 122) dX12_worst_122 rfl ?_
        refine r_if_ne (pc := 123) 131 dX12_worst_123 (by decide) (fun c123 => ?_) (fun c123 => ?_)
        · skip
          rw [if_neg c123] at h7
          refine r_iload (pc := 131) dX12_worst_131 rfl ?_
          refine r_ireturn (pc := 133) (ty := .int) dX12_worst_133 rfl rfl ⟨Nat.zero_le _, Nat.zero_le _⟩ (fun gE hg => ?_)
          exact mR hg (h7 _ _ q1)
        · skip
          rw [if_pos c123] at h7
          refine r_iload (pc := 126) dX12_worst_126 rfl ?_
          refine r_goto (pc := 128) 133 dX12_worst_128 (by decide) ?_
          refine r_ireturn (pc := 133) (ty := .int) dX12_worst_133 rfl rfl ⟨Nat.zero_le _, Nat.zero_le _⟩ (fun gE hg => ?_)
          exact mR hg (h7 _ _ q1)
      · skip
        exact absurd (fa_le.mpr (Int.le_refl _)) c69
    · intro x hx ih h1 s1 A1 W M q1 hw
      have hT := nI_T (n := x) (by omega)
      have hV := awV_le (lD := lD) (lL := lL) (S := 2 ^ x) (n := n) ok okR
      have hTV := nI_T hV
      have nx : ∀ s4 A4 W2 M2, MG K hs tD tL tp wa z k bt sh hd er im s4 A4 → (W2 = nI (wo (x - 1)) ∧ M2 = nI (awV K hs lD lL i (2 ^ wo (x - 1)) n)) → AW (fun _ => True) (rmd 50 0 0) mX12_worst 0 0 61 [some (.ref m), some (.int (nI i)), some (.int (nI n)), some (.int c), some (.int W2), some (.int M2), some (.int (nI (x + 1))), none] [] (MP m h s4 A4) Q := fun s4 A4 W2 M2 q4 e => ih (by omega) s4 A4 W2 M2 q4 (Or.inr ⟨by omega, by rw [show x + 1 - 2 = x - 1 by omega]; exact e.1, by rw [show x + 1 - 2 = x - 1 by omega]; exact e.2⟩)
      have hgt : (M < nI (awV K hs lD lL i (2 ^ x) n) → wo (x - 1) = x) ∧ (¬ M < nI (awV K hs lD lL i (2 ^ x) n) → W = nI (wo (x - 1)) ∧ M = nI (awV K hs lD lL i (2 ^ wo (x - 1)) n)) := by
        rcases hw with ⟨e1, e2, e3⟩ | ⟨e1, e2, e3⟩
        · subst e1
          rw [e3]
          refine ⟨fun _ => w0, fun y => absurd (fa_lt.mpr (by rw [hTV, show (-1 : Int32).toInt = -1 from rfl]; omega)) y⟩
        · have hs' := ws (x - 2) (by omega)
          rw [show x - 2 + 1 = x - 1 by omega, show x - 2 + 2 = x by omega] at hs'
          have g2 := awV_le (lD := lD) (lL := lL) (S := 2 ^ wo (x - 2)) (n := n) ok okR
          rw [e2, e3]
          constructor
          · intro y
            rw [hs', if_pos ((lt_nI2 g2 hV).mp y)]
          · intro y
            rw [hs', if_neg (fun y2 => y ((lt_nI2 g2 hV).mpr y2))]
            exact ⟨rfl, rfl⟩
      refine r_iload (pc := 61) dX12_worst_61 rfl ?_
      refine r_aload_n (pc := 63) dX12_worst_63 rfl ?_
      refine r_getf (pc := 64) (k := 0) dX12_worst_64 hX12 eX12 (by decide) fX12_7 (fun _ q => mo hm q) rfl ?_
      refine r_iconst (pc := 67) (v := 1) dX12_worst_67 (by decide) ?_
      refine r_ml (pc := 68) (i := 0) (j := 1) hm dX12_worst_68 (by decide) rfl (by decide) ?_
      rw [q1.rk.2.1]
      refine r_icmp_ge (pc := 69) 122 dX12_worst_69 (by decide) (fun c69 => ?_) (fun c69 => ?_)
      · skip
        exact absurd c69 (fun y => by have := fa_le.mp y; omega)
      · skip
        refine r_aload_n (pc := 72) dX12_worst_72 rfl ?_
        refine r_iload_n (pc := 73) dX12_worst_73 rfl ?_
        refine r_iconst (pc := 74) (v := 1) dX12_worst_74 (by decide) ?_
        refine r_iload (pc := 75) dX12_worst_75 rfl ?_
        refine r_ishl (pc := 77) dX12_worst_77 ?_
        rw [shl_is x (by omega)]
        refine r_iload_n (pc := 78) dX12_worst_78 rfl ?_
        refine r_Vi (pc := 79) (μ' := mX12_seenAway) dX12_worst_79 nX12_237 iX12_seenAway vX12_seenAway kX12_seenAway rfl rfl (rr (by omega) rfl) rfl ⟨Nat.zero_le _, Nat.zero_le _⟩ (fun _ q_ => cvq q_ (ct_M_seenAway hm q1 ok tb hok hD hL hi2 (by have : 2 ^ x ≤ 32 := p2_le (by omega); omega) hn)) ?_
        refine aw_ex fun s4 => aw_ex fun A4 => aw_pr fun q4 => ?_
        refine r_istore (pc := 82) dX12_worst_82 (Nat.le_of_ble_eq_true rfl) rfl ?_
        dsimp only [lset]
        refine r_iload (pc := 84) dX12_worst_84 rfl ?_
        refine r_iload (pc := 86) dX12_worst_86 rfl ?_
        refine r_icmp_le (pc := 88) 96 dX12_worst_88 (by decide) (fun c88 => ?_) (fun c88 => ?_)
        · skip
          have k1 : ¬ M < nI (awV K hs lD lL i (2 ^ x) n) := fun y => by have h1 := fa_lt.mp y; have h2 := fa_le.mp c88; omega
          refine r_iload (pc := 96) dX12_worst_96 rfl ?_
          refine r_istore (pc := 98) dX12_worst_98 (Nat.le_of_ble_eq_true rfl) rfl ?_
          dsimp only [lset]
          refine r_iload (pc := 100) dX12_worst_100 rfl ?_
          refine r_iload (pc := 102) dX12_worst_102 rfl ?_
          refine r_icmp_le (pc := 104) 112 dX12_worst_104 (by decide) (fun c104 => ?_) (fun c104 => ?_)
          · skip
            first
            | exact absurd c88 (fun y => c88 c104)
            | skip
              refine r_iload (pc := 112) dX12_worst_112 rfl ?_
              refine r_istore (pc := 114) dX12_worst_114 (Nat.le_of_ble_eq_true rfl) rfl ?_
              dsimp only [lset]
              refine r_iinc1 (pc := 116) dX12_worst_116 rfl (Nat.le_of_ble_eq_true rfl) rfl ?_
              dsimp only [lset]
              refine r_goto (pc := 119) 61 dX12_worst_119 (by decide) ?_
              rw [nI_1]
              refine aw_dr 7 rfl ?_
              first
              | (exact nx s4 A4 _ _ q4 (hgt.2 k1))
              | (exact nx s4 A4 _ _ q4 (by rw [hgt.1 k1]; exact ⟨rfl, rfl⟩))
          · skip
            first
            | exact absurd c88 c104
            | skip
              refine r_iload (pc := 107) dX12_worst_107 rfl ?_
              refine r_goto (pc := 109) 114 dX12_worst_109 (by decide) ?_
              refine r_istore (pc := 114) dX12_worst_114 (Nat.le_of_ble_eq_true rfl) rfl ?_
              dsimp only [lset]
              refine r_iinc1 (pc := 116) dX12_worst_116 rfl (Nat.le_of_ble_eq_true rfl) rfl ?_
              dsimp only [lset]
              refine r_goto (pc := 119) 61 dX12_worst_119 (by decide) ?_
              rw [nI_1]
              refine aw_dr 7 rfl ?_
              first
              | (exact nx s4 A4 _ _ q4 (hgt.2 k1))
              | (exact nx s4 A4 _ _ q4 (by rw [hgt.1 k1]; exact ⟨rfl, rfl⟩))
        · skip
          have k1 : M < nI (awV K hs lD lL i (2 ^ x) n) := fa_lt.mpr (by have : ¬ (nI (awV K hs lD lL i (2 ^ x) n)).toInt ≤ M.toInt := fun y => c88 (fa_le.mpr y); omega)
          refine r_iload (pc := 91) dX12_worst_91 rfl ?_
          refine r_goto (pc := 93) 98 dX12_worst_93 (by decide) ?_
          refine r_istore (pc := 98) dX12_worst_98 (Nat.le_of_ble_eq_true rfl) rfl ?_
          dsimp only [lset]
          refine r_iload (pc := 100) dX12_worst_100 rfl ?_
          refine r_iload (pc := 102) dX12_worst_102 rfl ?_
          refine r_icmp_le (pc := 104) 112 dX12_worst_104 (by decide) (fun c104 => ?_) (fun c104 => ?_)
          · skip
            first
            | exact absurd c88 (fun y => c88 c104)
            | skip
              refine r_iload (pc := 112) dX12_worst_112 rfl ?_
              refine r_istore (pc := 114) dX12_worst_114 (Nat.le_of_ble_eq_true rfl) rfl ?_
              dsimp only [lset]
              refine r_iinc1 (pc := 116) dX12_worst_116 rfl (Nat.le_of_ble_eq_true rfl) rfl ?_
              dsimp only [lset]
              refine r_goto (pc := 119) 61 dX12_worst_119 (by decide) ?_
              rw [nI_1]
              refine aw_dr 7 rfl ?_
              first
              | (exact nx s4 A4 _ _ q4 (hgt.2 k1))
              | (exact nx s4 A4 _ _ q4 (by rw [hgt.1 k1]; exact ⟨rfl, rfl⟩))
          · skip
            first
            | exact absurd c88 c104
            | skip
              refine r_iload (pc := 107) dX12_worst_107 rfl ?_
              refine r_goto (pc := 109) 114 dX12_worst_109 (by decide) ?_
              refine r_istore (pc := 114) dX12_worst_114 (Nat.le_of_ble_eq_true rfl) rfl ?_
              dsimp only [lset]
              refine r_iinc1 (pc := 116) dX12_worst_116 rfl (Nat.le_of_ble_eq_true rfl) rfl ?_
              dsimp only [lset]
              refine r_goto (pc := 119) 61 dX12_worst_119 (by decide) ?_
              rw [nI_1]
              refine aw_dr 7 rfl ?_
              first
              | (exact nx s4 A4 _ _ q4 (hgt.2 k1))
              | (exact nx s4 A4 _ _ q4 (by rw [hgt.1 k1]; exact ⟨rfl, rfl⟩))
  refine aw_P (P' := MP m h s A) (fun _ q => q) ?_
  refine r_aload_n (pc := 0) dX12_worst_0 rfl ?_
  refine r_iload_n (pc := 1) dX12_worst_1 rfl ?_
  refine r_Vi (pc := 2) (μ' := mX12_isHand) dX12_worst_2 nX12_98 iX12_isHand vX12_isHand kX12_isHand rfl rfl (rr (by omega) rfl) rfl ⟨Nat.zero_le _, Nat.zero_le _⟩ (fun _ q_ => cvq q_ (ct_M_isHand hm)) ?_
  rw [q.hb]
  refine r_if_eq (pc := 5) 28 dX12_worst_5 (by decide) (fun c5 => ?_) (fun c5 => ?_)
  · skip
    have k1 := b2i_0.mp c5
    refine r_aload_n (pc := 28) dX12_worst_28 rfl ?_
    refine r_ldc (pc := 29) (v := (-1000000001)) dX12_worst_29 qX12_61 ?_
    refine r_Vi (pc := 31) (μ' := mX12_errs) dX12_worst_31 nX12_62 iX12_errs vX12_errs kX12_errs rfl rfl (rr (by omega) rfl) rfl ⟨Nat.zero_le _, Nat.zero_le _⟩ (fun _ q_ => cvq q_ (ct_M_errs hm 1 (by decide) (by decide))) ?_
    rw [show (-1000000001 : Int32) = -1000000000 - 1 from rfl]
    refine r_ireturn (pc := 34) (ty := .int) dX12_worst_34 rfl rfl ⟨Nat.zero_le _, Nat.zero_le _⟩ (fun gE hg => ?_)
    exact mR hg (e1 (by first | (rw [k1]; rfl) | (rw [k1, k2]; rfl) | (rw [k1, k2, k3]; rfl)) _ _ (q.err (by decide) rfl))
  · skip
    have k1 := b2i_n0.mp c5
    refine r_iload_n (pc := 8) dX12_worst_8 rfl ?_
    refine r_iconst (pc := 9) (v := 0) dX12_worst_9 (by decide) ?_
    refine r_sipush (pc := 10) (v := 500) dX12_worst_10 (by decide) ?_
    refine r_Sp (pc := 13) (μ' := mX12_in) dX12_worst_13 nX12_57 sX12_in kX12_in rfl rfl (rr (by omega) rfl) rfl ⟨Nat.zero_le _, Nat.zero_le _⟩ (fun h => ct_M_in h) ?_
    refine r_if_eq (pc := 16) 28 dX12_worst_16 (by decide) (fun c16 => ?_) (fun c16 => ?_)
    · skip
      have k2 := b2i_0.mp c16
      refine r_aload_n (pc := 28) dX12_worst_28 rfl ?_
      refine r_ldc (pc := 29) (v := (-1000000001)) dX12_worst_29 qX12_61 ?_
      refine r_Vi (pc := 31) (μ' := mX12_errs) dX12_worst_31 nX12_62 iX12_errs vX12_errs kX12_errs rfl rfl (rr (by omega) rfl) rfl ⟨Nat.zero_le _, Nat.zero_le _⟩ (fun _ q_ => cvq q_ (ct_M_errs hm 1 (by decide) (by decide))) ?_
      rw [show (-1000000001 : Int32) = -1000000000 - 1 from rfl]
      refine r_ireturn (pc := 34) (ty := .int) dX12_worst_34 rfl rfl ⟨Nat.zero_le _, Nat.zero_le _⟩ (fun gE hg => ?_)
      exact mR hg (e1 (by first | (rw [k1]; rfl) | (rw [k1, k2]; rfl) | (rw [k1, k2, k3]; rfl)) _ _ (q.err (by decide) rfl))
    · skip
      have k2 := b2i_n0.mp c16
      refine r_iload_n (pc := 19) dX12_worst_19 rfl ?_
      refine r_iconst (pc := 20) (v := 0) dX12_worst_20 (by decide) ?_
      refine r_iconst (pc := 21) (v := 1) dX12_worst_21 (by decide) ?_
      refine r_Sp (pc := 22) (μ' := mX12_in) dX12_worst_22 nX12_57 sX12_in kX12_in rfl rfl (rr (by omega) rfl) rfl ⟨Nat.zero_le _, Nat.zero_le _⟩ (fun h => ct_M_in h) ?_
      refine r_if_ne (pc := 25) 35 dX12_worst_25 (by decide) (fun c25 => ?_) (fun c25 => ?_)
      · skip
        have k3 := b2i_n0.mp c25
        obtain ⟨i, hi, hi2⟩ := hd_t k1 hok
        obtain ⟨n, hn, hn2⟩ := wi_nat k2 (by decide)
        have hn3 : n ≤ 500 := by rw [show (500 : Int32).toInt = 500 from rfl] at hn2; omega
        refine r_aload_n (pc := 35) dX12_worst_35 rfl ?_
        refine r_getf (pc := 36) (k := 0) dX12_worst_36 hX12 eX12 (by decide) fX12_7 (fun _ q => mo hm q) rfl ?_
        refine r_iconst (pc := 39) (v := 1) dX12_worst_39 (by decide) ?_
        refine r_ml (pc := 40) (i := 0) (j := 1) hm dX12_worst_40 (by decide) rfl (by decide) ?_
        rw [q.rk.2.1]
        refine r_iconst (pc := 41) (v := 1) dX12_worst_41 (by decide) ?_
        refine r_icmp_ne (pc := 42) 52 dX12_worst_42 (by decide) (fun c42 => ?_) (fun c42 => ?_)
        · skip
          have h2 : 2 ≤ kSt K := by
            have : ¬ kSt K = 1 := fun x => c42 (by rw [x]; rfl)
            omega
          refine r_iconst (pc := 52) (v := 0) dX12_worst_52 (by decide) ?_
          refine r_istore (pc := 53) dX12_worst_53 (Nat.le_of_ble_eq_true rfl) rfl ?_
          dsimp only [lset]
          refine r_iconst (pc := 55) (v := (-1)) dX12_worst_55 (by decide) ?_
          refine r_istore (pc := 56) dX12_worst_56 (Nat.le_of_ble_eq_true rfl) rfl ?_
          dsimp only [lset]
          refine r_iconst (pc := 58) (v := 1) dX12_worst_58 (by decide) ?_
          refine r_istore (pc := 59) dX12_worst_59 (Nat.le_of_ble_eq_true rfl) rfl ?_
          dsimp only [lset]
          obtain ⟨wo, w1, w0, ws, w7⟩ := Z i n hi hi2 hn hn3 k3 h2
          rw [hi, hn]
          exact L i n hi hi2 hn hn3 h2 wo w1 w0 ws w7 1 (by omega) (by omega) s A 0 (-1) q (Or.inl ⟨rfl, rfl, rfl⟩)
        · skip
          have h1 : kSt K = 1 := by have := fa_eq.mp c42; rw [hTs, t1] at this; omega
          refine r_aload_n (pc := 45) dX12_worst_45 rfl ?_
          refine r_ldc (pc := 46) (v := (-1000000002)) dX12_worst_46 qX12_220 ?_
          refine r_Vi (pc := 48) (μ' := mX12_errs) dX12_worst_48 nX12_62 iX12_errs vX12_errs kX12_errs rfl rfl (rr (by omega) rfl) rfl ⟨Nat.zero_le _, Nat.zero_le _⟩ (fun _ q_ => cvq q_ (ct_M_errs hm 2 (by decide) (by decide))) ?_
          rw [show (-1000000002 : Int32) = -1000000000 - 2 from rfl]
          refine r_ireturn (pc := 51) (ty := .int) dX12_worst_51 rfl rfl ⟨Nat.zero_le _, Nat.zero_le _⟩ (fun gE hg => ?_)
          exact mR hg (e2 (by rw [k1, k2, k3]; rfl) h1 _ _ (q.err (by decide) rfl))
      · skip
        have k3 := b2i_0.mp c25
        refine r_aload_n (pc := 28) dX12_worst_28 rfl ?_
        refine r_ldc (pc := 29) (v := (-1000000001)) dX12_worst_29 qX12_61 ?_
        refine r_Vi (pc := 31) (μ' := mX12_errs) dX12_worst_31 nX12_62 iX12_errs vX12_errs kX12_errs rfl rfl (rr (by omega) rfl) rfl ⟨Nat.zero_le _, Nat.zero_le _⟩ (fun _ q_ => cvq q_ (ct_M_errs hm 1 (by decide) (by decide))) ?_
        rw [show (-1000000001 : Int32) = -1000000000 - 1 from rfl]
        refine r_ireturn (pc := 34) (ty := .int) dX12_worst_34 rfl rfl ⟨Nat.zero_le _, Nat.zero_le _⟩ (fun gE hg => ?_)
        exact mR hg (e1 (by first | (rw [k1]; rfl) | (rw [k1, k2]; rfl) | (rw [k1, k2, k3]; rfl)) _ _ (q.err (by decide) rfl))
set_option maxHeartbeats 4000000 in
theorem cm_cans (hm : m + 14 < h.1) {a : Int32} (q : MG K hs tD tL tp wa z k bt sh hd er im s A) (ok : KOk K) (hok : HOk hs) (e1 : hdB hs a = false → ∀ s2 A2, MG K hs tD tL tp wa z k bt sh hd (errL er 1) im s2 A2 → Q (some (.int (-1000000000 - 1))) (mh m h s2 A2)) (hP : ∀ i, a = nI i → i < hs.length → ∀ s2 A2, MG K hs tD tL tp wa z k bt sh hd er im s2 A2 → Q (some (.int (nI (thR K hs i).2.2.2.2.2.2.2.1))) (mh m h s2 A2)) : CV 10 0 0 mX12_cans m [.int a] (mh m h s A) Q := by
  refine ⟨mV hm, ?_⟩
  refine ct_of (by decide) (fun _ _ => Nat.le_of_ble_eq_true rfl) ?_
  dsimp only [pad, ent]
  have hst : 1 ≤ kSt K ∧ kSt K ≤ 6 := ok.2.1
  have hTs := nI_T (n := kSt K) (by omega)
  have L : ∀ i, a = nI i → i < hs.length → ∀ j, j ≤ kSt K → ∀ s1 f : Nat → Int32, RMk (rollsN (hKd hs i) (hMn hs i) (noCan K) j) f → (∀ y, RJ y → f y = A 0 y) → s1 18 = 0 + nI (rollsN (hKd hs i) (hMn hs i) (noCan K) j).2.2.2.2.2.2.2.1 → sEq 18 s s1 → AW (fun _ => True) (rmd 10 0 0) mX12_cans 0 0 34 [some (.ref m), some (.int (nI i)), some (.int (nI j))] [] (MP m h s1 (upA (upA A 2 (mvF (A 0) (A 2))) 0 f)) Q := by
    intro i hi hi2
    have h7 := hP i hi hi2
    refine up_loop ?_ ?_
    · intro s1 f q1 q2 q18 q3
      have x3 := (rollsN_form (kd := hKd hs i) (m := hMn hs i) (K := noCan K) (kSt K)).2.1
      have x3 : kSt (rollsN (hKd hs i) (hMn hs i) (noCan K) (kSt K)) = kSt K := x3
      refine r_iload_n (pc := 34) dX12_cans_34 rfl ?_
      refine r_aload_n (pc := 35) dX12_cans_35 rfl ?_
      refine r_getf (pc := 36) (k := 0) dX12_cans_36 hX12 eX12 (by decide) fX12_7 (fun _ q => mo hm q) rfl ?_
      refine r_iconst (pc := 39) (v := 1) dX12_cans_39 (by decide) ?_
      refine r_rl (pc := 40) (j := 1) hm dX12_cans_40 rfl (by decide) ?_
      rw [q1.2.1, x3]
      refine r_icmp_ge (pc := 41) 57 dX12_cans_41 (by decide) (fun c41 => ?_) (fun c41 => ?_)
      · skip
        refine r_aload_n (pc := 57) dX12_cans_57 rfl ?_
        refine r_aload_n (pc := 58) dX12_cans_58 rfl ?_
        refine r_getf (pc := 59) (k := 2) dX12_cans_59 hX12 eX12 (by decide) fX12_16 (fun _ q => mo hm q) rfl ?_
        refine r_aload_n (pc := 62) dX12_cans_62 rfl ?_
        refine r_getf (pc := 63) (k := 0) dX12_cans_63 hX12 eX12 (by decide) fX12_7 (fun _ q => mo hm q) rfl ?_
        refine r_Vv (pc := 66) (μ' := mX12_moveAll) dX12_cans_66 nX12_188 iX12_moveAll vX12_moveAll kX12_moveAll rfl rfl (rr (by decide) rfl) rfl ⟨Nat.zero_le _, Nat.zero_le _⟩ (fun _ q_ => cvq q_ (ct_M_moveAll hm 2 0 (by decide) (by decide) (by decide))) ?_
        refine r_aload_n (pc := 69) dX12_cans_69 rfl ?_
        refine r_getf (pc := 70) (k := 18) dX12_cans_70 hX12 eX12 (by decide) fX12_192 (fun _ q => mo hm q) rfl ?_
        rw [q18, Int32.zero_add]
        refine r_ireturn (pc := 73) (ty := .int) dX12_cans_73 rfl rfl ⟨Nat.zero_le _, Nat.zero_le _⟩ (fun gE hg => ?_)
        refine mR hg (h7 _ _ (q.back ok ⟨q3 4 (by omega), q3 5 (by omega), q3 9 (by omega), q3 26 (by omega)⟩ (fun i hi => ?_) (fun j hj => ?_)))
        · rw [upA_n (by omega), upA_n (by omega), upA_n (by omega)]
        · rw [upA_s]
          exact (if_pos hj).trans (if_pos hj)
      · skip
        exact absurd (fa_le.mpr (Int.le_refl _)) c41
    · intro j hj ih s1 f q1 q2 q18 q3
      have hTj := nI_T (n := j) (by omega)
      obtain ⟨x1, x2, x3, x4⟩ := rollsN_ok (kd := hKd hs i) (m := hMn hs i) (noCan_ok ok) j
      have x3 : kSt (rollsN (hKd hs i) (hMn hs i) (noCan K) j) = kSt K := x3
      refine r_iload_n (pc := 34) dX12_cans_34 rfl ?_
      refine r_aload_n (pc := 35) dX12_cans_35 rfl ?_
      refine r_getf (pc := 36) (k := 0) dX12_cans_36 hX12 eX12 (by decide) fX12_7 (fun _ q => mo hm q) rfl ?_
      refine r_iconst (pc := 39) (v := 1) dX12_cans_39 (by decide) ?_
      refine r_rl (pc := 40) (j := 1) hm dX12_cans_40 rfl (by decide) ?_
      rw [q1.2.1, x3]
      refine r_icmp_ge (pc := 41) 57 dX12_cans_41 (by decide) (fun c41 => ?_) (fun c41 => ?_)
      · skip
        exact absurd c41 (fun y => by have := fa_le.mp y; omega)
      · skip
        refine r_aload_n (pc := 44) dX12_cans_44 rfl ?_
        refine r_iload_n (pc := 45) dX12_cans_45 rfl ?_
        refine r_iload_n (pc := 46) dX12_cans_46 rfl ?_
        refine r_iconst (pc := 47) (v := 0) dX12_cans_47 (by decide) ?_
        rw [show (0 : Int32) = b2i false from rfl]
        refine r_Vv (pc := 48) (μ' := mX12_rollsBy) dX12_cans_48 nX12_203 iX12_rollsBy vX12_rollsBy kX12_rollsBy rfl rfl (rr (by decide) rfl) rfl ⟨Nat.zero_le _, Nat.zero_le _⟩ (fun _ q_ => cvq q_ (ct_M_rollsBy hm hi2 hok (q.rr.ext q2).2.1.1 (by rw [x3]; exact hj) x1 q1 q18)) ?_
        refine aw_ex fun s5 => aw_ex fun f5 => aw_pr fun q5 => ?_
        refine r_iinc1 (pc := 51) dX12_cans_51 rfl (Nat.le_of_ble_eq_true rfl) rfl ?_
        dsimp only [lset]
        refine r_goto (pc := 54) 34 dX12_cans_54 (by decide) ?_
        rw [nI_1]
        exact ih s5 f5 q5.1 (fun y hy => (q5.2.1 y hy).trans (q2 y hy)) q5.2.2.1 (fun y hy => (q5.2.2.2 y hy).trans (q3 y hy))
  refine aw_P (P' := MP m h s A) (fun _ q => q) ?_
  refine r_aload_n (pc := 0) dX12_cans_0 rfl ?_
  refine r_iload_n (pc := 1) dX12_cans_1 rfl ?_
  refine r_Vi (pc := 2) (μ' := mX12_isHand) dX12_cans_2 nX12_98 iX12_isHand vX12_isHand kX12_isHand rfl rfl (rr (by decide) rfl) rfl ⟨Nat.zero_le _, Nat.zero_le _⟩ (fun _ q_ => cvq q_ (ct_M_isHand hm)) ?_
  rw [q.hb]
  refine r_if_ne (pc := 5) 15 dX12_cans_5 (by decide) (fun c5 => ?_) (fun c5 => ?_)
  · skip
    have k1 := b2i_n0.mp c5
    obtain ⟨i, hi, hi2⟩ := hd_t k1 hok
    refine r_aload_n (pc := 15) dX12_cans_15 rfl ?_
    refine r_aload_n (pc := 16) dX12_cans_16 rfl ?_
    refine r_getf (pc := 17) (k := 0) dX12_cans_17 hX12 eX12 (by decide) fX12_7 (fun _ q => mo hm q) rfl ?_
    refine r_aload_n (pc := 20) dX12_cans_20 rfl ?_
    refine r_getf (pc := 21) (k := 2) dX12_cans_21 hX12 eX12 (by decide) fX12_16 (fun _ q => mo hm q) rfl ?_
    refine r_Vv (pc := 24) (μ' := mX12_moveAll) dX12_cans_24 nX12_188 iX12_moveAll vX12_moveAll kX12_moveAll rfl rfl (rr (by decide) rfl) rfl ⟨Nat.zero_le _, Nat.zero_le _⟩ (fun _ q_ => cvq q_ (ct_M_moveAll hm 0 2 (by decide) (by decide) (by decide))) ?_
    refine r_aload_n (pc := 27) dX12_cans_27 rfl ?_
    refine r_iconst (pc := 28) (v := 0) dX12_cans_28 (by decide) ?_
    refine r_mp (pc := 29) (k := 18) hm dX12_cans_29 fX12_192 (by decide) rfl rfl (fun _ _ => rfl) (fun _ _ => rfl) rfl ?_
    refine r_iconst (pc := 32) (v := 0) dX12_cans_32 (by decide) ?_
    refine r_istore_n (pc := 33) dX12_cans_33 rfl (Nat.le_of_ble_eq_true rfl) rfl ?_
    dsimp only [lset]
    refine aw_P (P' := MP m h (upd s 18 0) (upA (upA A 2 (mvF (A 0) (A 2))) 0 (A 0))) (fun g q => by rw [show upA (upA A 2 (mvF (A 0) (A 2))) 0 (A 0) = upA A 2 (mvF (A 0) (A 2)) from upA_id (A := upA A 2 (mvF (A 0) (A 2))) (i := 0)]; exact q) ?_
    rw [hi]
    exact L i hi hi2 0 (Nat.zero_le _) (upd s 18 0) (A 0) (RMk_can q.rk) (fun y _ => rfl) upd_s (fun y hy => upd_n hy)
  · skip
    have k1 := b2i_0.mp c5
    refine r_aload_n (pc := 8) dX12_cans_8 rfl ?_
    refine r_ldc (pc := 9) (v := (-1000000001)) dX12_cans_9 qX12_61 ?_
    refine r_Vi (pc := 11) (μ' := mX12_errs) dX12_cans_11 nX12_62 iX12_errs vX12_errs kX12_errs rfl rfl (rr (by decide) rfl) rfl ⟨Nat.zero_le _, Nat.zero_le _⟩ (fun _ q_ => cvq q_ (ct_M_errs hm 1 (by decide) (by decide))) ?_
    rw [show (-1000000001 : Int32) = -1000000000 - 1 from rfl]
    refine r_ireturn (pc := 14) (ty := .int) dX12_cans_14 rfl rfl ⟨Nat.zero_le _, Nat.zero_le _⟩ (fun gE hg => ?_)
    exact mR hg (e1 k1 _ _ (q.err (by decide) rfl))
end Maway
