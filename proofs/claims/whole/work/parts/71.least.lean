/-! THE REFERENCE, whole: what an order would show; the next order -/
theorem setMi_0 (X : CK) : setMi X (kMi X + 0) = X := by
  obtain ⟨ro, st, mi, he, le, wh, si, ca, w, v⟩ := X
  rfl
def orV (K : CK) (hs : List (Nat × Nat)) (lD lL : List Int32) (i : Nat) (o : Nat → Nat) : Nat := seenN (rG (hKd hs i) (hMn hs i) (noCan K) o (fun _ => 0) (kSt K)) (drL lD (kHe K)) (ltL lL)
section Mleast
variable {m : Nat} {h : AH} {K K2 : CK} {hs hs2 : List (Nat × Nat)} {tD tL tD2 tL2 : Option (List Int32)} {tp wa tp2 wa2 hd er lD lL : List Int32} {z im z2 : Int32} {k : MK} {bt : Nat → Int32} {sh : Nat → List Int32} {s s2 : Nat → Int32} {A A2 : Nat → Nat → Int32} {Q : Option Value → AH → Prop} {f : Nat → Int32}
theorem SE.to (q : SE K lD lL s A) (ok : KOk K) (h0 : ∀ j, j < 267 → A2 0 j = A 0 j) (t : TbP (kRo K) (kSt K) (kHe K) lD lL s2 A2) : SE K lD lL s2 A2 := by
  obtain ⟨q1, ⟨tD, q2, q3⟩, ⟨tL, q4, q5⟩, -⟩ := q
  refine ⟨q1.ext2 ok fun j hj => h0 j (by omega), ⟨tD, ?_, q3⟩, ⟨tL, ?_, q5⟩, t⟩
  · rw [h0 11 (by omega)]
    exact q2.ext fun j hj => h0 _ (by omega)
  · rw [h0 12 (by omega)]
    exact q4.ext fun j hj => h0 _ (by omega)
set_option maxHeartbeats 8000000 in
theorem ct_M_seenBy (hm : m + 14 < h.1) (ok : KOk K) (tb : TB K 9999 9999) (hok : HOk hs) (rh : RMh hs (A 0)) (q : SE K lD lL s A) {i : Nat} (hi : i < hs.length) {o : Nat → Nat} (ho : ∀ j, j < kSt K → A 11 j = nI (o j) ∧ o j < kSt K) : CV 46 0 0 mX12_seenBy m [.int (nI i)] (mh m h s A) (fun v g => v = some (.int (nI (orV K hs lD lL i o))) ∧ ∃ s2 A2, (SE K lD lL s2 A2 ∧ (∀ j, j < 267 → A2 0 j = A 0 j) ∧ (∀ x, x ≠ 0 → x ≠ 2 → x ≠ 6 → A2 x = A x) ∧ ∀ k, (k < 10 ∨ 18 < k) → s2 k = s k) ∧ MP m h s2 A2 g) := by
  refine ⟨mV hm, ?_⟩
  refine ct_of (by decide) (fun _ _ => Nat.le_of_ble_eq_true rfl) ?_
  dsimp only [pad, ent]
  have hst : 1 ≤ kSt K ∧ kSt K ≤ 6 := ok.2.1
  have hTs := nI_T (n := kSt K) (by omega)
  have hh := hok.at hi
  obtain ⟨X, hX⟩ : ∃ X : Nat → CK, X = rG (hKd hs i) (hMn hs i) (noCan K) o (fun _ => 0) := ⟨_, rfl⟩
  have hXs : ∀ j, X (j + 1) = paintK (hKd hs i) (hMn hs i) (o j) false (X j) := by
    intro j
    rw [hX]
    show paintK (hKd hs i) (hMn hs i) (o j) false (setMi _ _) = _
    rw [setMi_0]
  have hXok : ∀ j, KOk (X j) ∧ kRo (X j) = kRo K ∧ kSt (X j) = kSt K ∧ kHe (X j) = kHe K := by
    intro j
    rw [hX]
    exact rG_ok (noCan_ok ok) j
  have hXtb : ∀ j, j ≤ 6 → TB (X j) (9999 + 6 * 536) 29000 := by
    intro j hj
    rw [hX]
    refine (rG_tb (D := 0) (noCan_ok ok) (TB.noCan tb) hh.1 hh.2 (fun _ => Nat.le_refl 0) (by decide) j (by omega)).mono ?_ (Nat.le_refl _)
    omega
  have hV : orV K hs lD lL i o = seenN (X (kSt K)) (drL lD (kHe K)) (ltL lL) := by rw [hX]; rfl
  rw [hV]
  have L : ∀ j, j ≤ kSt K → ∀ s1 f : Nat → Int32, RMk (X j) f → (∀ y, RJ y → f y = A 0 y) → sEq 18 s s1 → AW (fun _ => True) (rmd 46 0 0) mX12_seenBy 0 0 14 [some (.ref m), some (.int (nI i)), some (.int (nI j))] [] (MP m h s1 (upA (upA A 2 (mvF (A 0) (A 2))) 0 f)) (fun v g => v = some (.int (nI (seenN (X (kSt K)) (drL lD (kHe K)) (ltL lL)))) ∧ ∃ s2 A2, (SE K lD lL s2 A2 ∧ (∀ j, j < 267 → A2 0 j = A 0 j) ∧ (∀ x, x ≠ 0 → x ≠ 2 → x ≠ 6 → A2 x = A x) ∧ ∀ k, (k < 10 ∨ 18 < k) → s2 k = s k) ∧ MP m h s2 A2 g) := by
    refine up_loop ?_ ?_
    · intro s1 f q1 q2 q3
      obtain ⟨x1, x2, x3, x4⟩ := hXok (kSt K)
      have hse : SE (X (kSt K)) lD lL s1 (upA (upA A 2 (mvF (A 0) (A 2))) 0 f) := by
        obtain ⟨-, ⟨tD, p2, p3⟩, ⟨tL, p4, p5⟩, p6⟩ := q
        refine ⟨q1, ⟨tD, ?_, p3⟩, ⟨tL, ?_, p5⟩, ?_⟩
        · show TxM tD (f 11) 167 f
          rw [q2 11 (by unfold RJ; omega)]
          exact p2.ext fun j hj => q2 _ (by unfold RJ; omega)
        · show TxM tL (f 12) 217 f
          rw [q2 12 (by unfold RJ; omega)]
          exact p4.ext fun j hj => q2 _ (by unfold RJ; omega)
        · rw [x2, x3, x4]
          have : s1 9 = s 9 := q3 9 (by omega)
          unfold TbP at p6 ⊢
          rw [this]
          exact p6
      refine r_iload_n (pc := 14) dX12_seenBy_14 rfl ?_
      refine r_aload_n (pc := 15) dX12_seenBy_15 rfl ?_
      refine r_getf (pc := 16) (k := 0) dX12_seenBy_16 hX12 eX12 (by decide) fX12_7 (fun _ q => mo hm q) rfl ?_
      refine r_iconst (pc := 19) (v := 1) dX12_seenBy_19 (by decide) ?_
      refine r_rl (pc := 20) (j := 1) hm dX12_seenBy_20 rfl (by decide) ?_
      rw [q1.2.1, x3]
      refine r_icmp_ge (pc := 21) 42 dX12_seenBy_21 (by decide) (fun c21 => ?_) (fun c21 => ?_)
      · skip
        refine r_aload_n (pc := 42) dX12_seenBy_42 rfl ?_
        refine r_Vi (pc := 43) (μ' := mX12_seen) dX12_seenBy_43 nX12_211 iX12_seen vX12_seen kX12_seen rfl rfl (rr (by omega) rfl) rfl ⟨Nat.zero_le _, Nat.zero_le _⟩ (fun _ q_ => cvq q_ (ct_M_seen hm x1 ((hXtb _ (by omega)).wb (by omega)) hse)) ?_
        refine aw_ex fun s4 => aw_ex fun f6 => aw_pr fun q4 => ?_
        refine r_istore_n (pc := 46) dX12_seenBy_46 rfl (Nat.le_of_ble_eq_true rfl) rfl ?_
        dsimp only [lset]
        refine r_aload_n (pc := 47) dX12_seenBy_47 rfl ?_
        refine r_aload_n (pc := 48) dX12_seenBy_48 rfl ?_
        refine r_getf (pc := 49) (k := 2) dX12_seenBy_49 hX12 eX12 (by decide) fX12_16 (fun _ q => mo hm q) rfl ?_
        refine r_aload_n (pc := 52) dX12_seenBy_52 rfl ?_
        refine r_getf (pc := 53) (k := 0) dX12_seenBy_53 hX12 eX12 (by decide) fX12_7 (fun _ q => mo hm q) rfl ?_
        refine r_Vv (pc := 56) (μ' := mX12_moveAll) dX12_seenBy_56 nX12_188 iX12_moveAll vX12_moveAll kX12_moveAll rfl rfl (rr (by omega) rfl) rfl ⟨Nat.zero_le _, Nat.zero_le _⟩ (fun _ q_ => cvq q_ (ct_M_moveAll hm 2 0 (by decide) (by decide) (by decide))) ?_
        rw [x4]
        refine r_iload_n (pc := 59) dX12_seenBy_59 rfl ?_
        refine r_ireturn (pc := 60) (ty := .int) dX12_seenBy_60 rfl rfl ⟨Nat.zero_le _, Nat.zero_le _⟩ (fun gE hg => ?_)
        refine ⟨rfl, _, _, ?_, hg⟩
        have h0 : ∀ j, j < 267 → (upA (upA (upA (upA A 2 (mvF (A 0) (A 2))) 0 f) 6 f6) 0 (mvF ((upA (upA (upA A 2 (mvF (A 0) (A 2))) 0 f) 6 f6) 2) ((upA (upA (upA A 2 (mvF (A 0) (A 2))) 0 f) 6 f6) 0))) 0 j = A 0 j := by
          intro j hj
          rw [upA_s]
          exact (if_pos hj).trans (if_pos hj)
        refine ⟨q.to ok h0 ?_, h0, fun x y0 y2 y6 => ?_, fun k hk => (q4.2 k (by omega)).trans (q3 k (by omega))⟩
        · have := q4.1.2.2.2
          rw [x2, x3, x4] at this
          exact this
        · rw [upA_n y0, upA_n y6, upA_n y0, upA_n y2]
      · skip
        exact absurd (fa_le.mpr (Int.le_refl _)) c21
    · intro j hj ih s1 f q1 q2 q3
      have hTj := nI_T (n := j) (by omega)
      obtain ⟨x1, x2, x3, x4⟩ := hXok j
      obtain ⟨o1, o2⟩ := ho j hj
      have ct := fun s1 (A9 : Nat → Nat → Int32) => ct_M_rollsBy (h := h) (A := A9) (s := s1) (up := false) hm hi hok (show RMh hs f from ⟨(q2 8 (by unfold RJ; omega)).trans rh.1, fun y hy => by have h6 := hok.1; rw [q2 _ (by unfold RJ; omega), q2 _ (by unfold RJ; omega)]; exact rh.2 y hy⟩) (show o j < kSt (X j) by rw [x3]; exact o2) x1 q1 (s18_any s1 _)
      refine r_iload_n (pc := 14) dX12_seenBy_14 rfl ?_
      refine r_aload_n (pc := 15) dX12_seenBy_15 rfl ?_
      refine r_getf (pc := 16) (k := 0) dX12_seenBy_16 hX12 eX12 (by decide) fX12_7 (fun _ q => mo hm q) rfl ?_
      refine r_iconst (pc := 19) (v := 1) dX12_seenBy_19 (by decide) ?_
      refine r_rl (pc := 20) (j := 1) hm dX12_seenBy_20 rfl (by decide) ?_
      rw [q1.2.1, x3]
      refine r_icmp_ge (pc := 21) 42 dX12_seenBy_21 (by decide) (fun c21 => ?_) (fun c21 => ?_)
      · skip
        exact absurd c21 (fun y => by have := fa_le.mp y; omega)
      · skip
        refine r_aload_n (pc := 24) dX12_seenBy_24 rfl ?_
        refine r_iload_n (pc := 25) dX12_seenBy_25 rfl ?_
        refine r_aload_n (pc := 26) dX12_seenBy_26 rfl ?_
        refine r_getf (pc := 27) (k := 23) dX12_seenBy_27 hX12 eX12 (by decide) fX12_43 (fun _ q => mo hm q) rfl ?_
        refine r_iload_n (pc := 30) dX12_seenBy_30 rfl ?_
        refine r_ml (pc := 31) (i := 11) (j := j) hm dX12_seenBy_31 (by decide) (nI_T (by omega)) (show j < 6 by omega) ?_
        rw [show upA (upA A 2 (mvF (A 0) (A 2))) 0 f 11 j = A 11 j from rfl, o1]
        refine r_iconst (pc := 32) (v := 0) dX12_seenBy_32 (by decide) ?_
        rw [show (0 : Int32) = b2i false from rfl]
        refine r_Vv (pc := 33) (μ' := mX12_rollsBy) dX12_seenBy_33 nX12_203 iX12_rollsBy vX12_rollsBy kX12_rollsBy rfl rfl (rr (by omega) rfl) rfl ⟨Nat.zero_le _, Nat.zero_le _⟩ (fun _ q_ => cvq q_ (ct _ _)) ?_
        refine aw_ex fun s5 => aw_ex fun f5 => aw_pr fun q5 => ?_
        refine r_iinc1 (pc := 36) dX12_seenBy_36 rfl (Nat.le_of_ble_eq_true rfl) rfl ?_
        dsimp only [lset]
        refine r_goto (pc := 39) 14 dX12_seenBy_39 (by decide) ?_
        rw [nI_1]
        exact ih s5 f5 (by rw [hXs]; exact q5.1) (fun y hy => by rw [q5.2.1 y hy]; exact q2 y hy) (fun y hy => (q5.2.2.2 y hy).trans (q3 y hy))
  refine aw_P (P' := MP m h s A) (fun _ q => q) ?_
  refine r_aload_n (pc := 0) dX12_seenBy_0 rfl ?_
  refine r_aload_n (pc := 1) dX12_seenBy_1 rfl ?_
  refine r_getf (pc := 2) (k := 0) dX12_seenBy_2 hX12 eX12 (by decide) fX12_7 (fun _ q => mo hm q) rfl ?_
  refine r_aload_n (pc := 5) dX12_seenBy_5 rfl ?_
  refine r_getf (pc := 6) (k := 2) dX12_seenBy_6 hX12 eX12 (by decide) fX12_16 (fun _ q => mo hm q) rfl ?_
  refine r_Vv (pc := 9) (μ' := mX12_moveAll) dX12_seenBy_9 nX12_188 iX12_moveAll vX12_moveAll kX12_moveAll rfl rfl (rr (by decide) rfl) rfl ⟨Nat.zero_le _, Nat.zero_le _⟩ (fun _ q_ => cvq q_ (ct_M_moveAll hm 0 2 (by decide) (by decide) (by decide))) ?_
  refine r_iconst (pc := 12) (v := 0) dX12_seenBy_12 (by decide) ?_
  refine r_istore_n (pc := 13) dX12_seenBy_13 rfl (Nat.le_of_ble_eq_true rfl) rfl ?_
  dsimp only [lset]
  refine aw_P (P' := MP m h s (upA (upA A 2 (mvF (A 0) (A 2))) 0 (A 0))) (fun g q => by rw [show upA (upA A 2 (mvF (A 0) (A 2))) 0 (A 0) = upA A 2 (mvF (A 0) (A 2)) from upA_id (A := upA A 2 (mvF (A 0) (A 2))) (i := 0)]; exact q) ?_
  exact L 0 (Nat.zero_le _) s (A 0) (by rw [hX]; exact RMk_can q.1) (fun y _ => rfl) (fun _ _ => rfl)
theorem getD_setN {l : List Nat} {n j v : Nat} (h : n < l.length) : (l.set n v).getD j 0 = if j = n then v else l.getD j 0 := by
  by_cases c : j < l.length
  · rw [List.getD_eq_getElem?_getD, List.getElem?_set, List.getD_eq_getElem?_getD]
    by_cases e : n = j
    · rw [if_pos e, if_pos (by omega), if_pos e.symm]; rfl
    · rw [if_neg e, if_neg (fun x => e x.symm)]
  · rw [if_neg (by omega), List.getD_eq_getElem?_getD, List.getD_eq_getElem?_getD, List.getElem?_eq_none (by rw [List.length_set]; omega), List.getElem?_eq_none (by omega)]
def FG (l' l : List (Option Value)) : Prop := ∀ i v, lget l' i = some v → lget l i = some v
theorem FG.nil {l : List (Option Value)} : FG [] l := fun i v e => absurd e (by simp [lget])
theorem FG.non {l' l : List (Option Value)} {x : Option Value} (q : FG l' l) : FG (none :: l') (x :: l) := fun i v e => by
  cases i with
  | zero => exact absurd e (by simp [lget])
  | succ i => exact q i v e
theorem FG.sam {l' l : List (Option Value)} {x : Option Value} (q : FG l' l) : FG (x :: l') (x :: l) := fun i v e => by
  cases i with
  | zero => exact e
  | succ i => exact q i v e
/-- the row in an array -/
def OA (n : Nat) (o : List Nat) (a : Nat → Int32) : Prop := o.length = n ∧ ∀ j, j < n → a j = nI (o.getD j 0)
theorem OA.sw {n p j : Nat} {o : List Nat} {a : Nat → Int32} (q : OA n o a) (hp : p < n) (hj : j < n) : OA n (swN o p j) (upd (upd a p (a j)) j (a p)) := by
  obtain ⟨q1, q2⟩ := q
  refine ⟨by unfold swN; rw [List.length_set, List.length_set]; exact q1, fun x hx => ?_⟩
  unfold swN
  rw [getD_setN (by rw [List.length_set]; omega), getD_setN (by omega)]
  by_cases c : x = j
  · rw [if_pos c, c, upd_s, q2 p hp]
  · rw [if_neg c, upd_n c]
    by_cases d : x = p
    · rw [if_pos d, d, upd_s, q2 j hj]
    · rw [if_neg d, upd_n d, q2 x hx]
set_option maxHeartbeats 8000000 in
theorem ct_M_goesOn (hm : m + 14 < h.1) {n : Nat} {o : List Nat} (h1 : A 0 1 = nI n) (hn : 1 ≤ n ∧ n ≤ 6) (q : OA n o (A 11)) (hv : ∀ j, j < n → o.getD j 0 < n) (gj : gjOk n o = true) : CV 2 0 0 mX12_goesOn m [] (mh m h s A) (fun v g => v = some (.int (b2i (nxN n o).isSome)) ∧ ∃ a, (∀ o2, nxN n o = some o2 → OA n o2 a) ∧ MP m h s (upA A 11 a) g) := by
  refine ⟨mV hm, ?_⟩
  refine ct_of (by decide) (fun _ _ => Nat.le_of_ble_eq_true rfl) ?_
  dsimp only [pad, ent]
  obtain ⟨a, ha⟩ : ∃ a, a = A 11 := ⟨_, rfl⟩
  rw [← ha] at q
  obtain ⟨q1, q2⟩ := q
  have hTn := nI_T (n := n) (by omega)
  have A01 : ∀ a, upA A 11 a 0 1 = nI n := fun a => h1
  -- the row's end turned round
  have R : ∀ f o1 (a1 : Nat → Int32) (x y : Nat), OA n o1 a1 → y < n → x ≤ n → y ≤ x + f → nxN n o = some (rvN f o1 x y) → AW (fun _ => True) (rmd 2 0 0) mX12_goesOn 0 0 107 [some (.ref m), some (.int (nI n)), none, none, none, some (.int (nI x)), some (.int (nI y))] [] (MP m h s (upA A 11 a1)) (fun v g => v = some (.int (b2i (nxN n o).isSome)) ∧ ∃ a, (∀ o2, nxN n o = some o2 → OA n o2 a) ∧ MP m h s (upA A 11 a) g) := by
    intro f
    induction f with
    | zero =>
      intro o1 a1 x y p1 p2 p4 p3 hr
      have Tx := nI_T (n := x) (by omega)
      have Ty := nI_T (n := y) (by omega)
      refine r_iload (pc := 107) dX12_goesOn_107 rfl ?_
      refine r_iload (pc := 109) dX12_goesOn_109 rfl ?_
      refine r_icmp_ge (pc := 111) 155 dX12_goesOn_111 (by decide) (fun c111 => ?_) (fun c111 => ?_)
      · skip
        refine r_iconst (pc := 155) (v := 1) dX12_goesOn_155 (by decide) ?_
        refine r_ireturn (pc := 156) (ty := .boolean) dX12_goesOn_156 rfl rfl ⟨Nat.zero_le _, Nat.zero_le _⟩ (fun gE hg => ?_)
        exact ⟨by rw [hr]; rfl, _, fun o2 e => by rw [hr] at e; rw [← Option.some.inj e]; exact p1, hg⟩
      · skip
        exact absurd (fa_le.mpr (by omega)) c111
    | succ f ih =>
      intro o1 a1 x y p1 p2 p4 p3 hr
      have Tx := nI_T (n := x) (by omega)
      have Ty := nI_T (n := y) (by omega)
      refine r_iload (pc := 107) dX12_goesOn_107 rfl ?_
      refine r_iload (pc := 109) dX12_goesOn_109 rfl ?_
      refine r_icmp_ge (pc := 111) 155 dX12_goesOn_111 (by decide) (fun c111 => ?_) (fun c111 => ?_)
      · skip
        have c := fa_le.mp c111
        rw [show rvN (f + 1) o1 x y = o1 from if_neg (by omega)] at hr
        refine r_iconst (pc := 155) (v := 1) dX12_goesOn_155 (by decide) ?_
        refine r_ireturn (pc := 156) (ty := .boolean) dX12_goesOn_156 rfl rfl ⟨Nat.zero_le _, Nat.zero_le _⟩ (fun gE hg => ?_)
        exact ⟨by rw [hr]; rfl, _, fun o2 e => by rw [hr] at e; rw [← Option.some.inj e]; exact p1, hg⟩
      · skip
        have c : x < y := by
          refine Classical.byContradiction fun e => c111 (fa_le.mpr (by omega))
        rw [show rvN (f + 1) o1 x y = rvN f (swN o1 x y) (x + 1) (y - 1) from if_pos c] at hr
        refine r_aload_n (pc := 114) dX12_goesOn_114 rfl ?_
        refine r_getf (pc := 115) (k := 23) dX12_goesOn_115 hX12 eX12 (by decide) fX12_43 (fun _ q => mo hm q) rfl ?_
        refine r_iload (pc := 118) dX12_goesOn_118 rfl ?_
        refine r_ml (pc := 120) (i := 11) (j := x) hm dX12_goesOn_120 (by decide) (nI_T (by omega)) (show x < 6 by omega) ?_
        refine r_istore (pc := 121) dX12_goesOn_121 (Nat.le_of_ble_eq_true rfl) rfl ?_
        dsimp only [lset]
        refine r_aload_n (pc := 123) dX12_goesOn_123 rfl ?_
        refine r_getf (pc := 124) (k := 23) dX12_goesOn_124 hX12 eX12 (by decide) fX12_43 (fun _ q => mo hm q) rfl ?_
        refine r_iload (pc := 127) dX12_goesOn_127 rfl ?_
        refine r_aload_n (pc := 129) dX12_goesOn_129 rfl ?_
        refine r_getf (pc := 130) (k := 23) dX12_goesOn_130 hX12 eX12 (by decide) fX12_43 (fun _ q => mo hm q) rfl ?_
        refine r_iload (pc := 133) dX12_goesOn_133 rfl ?_
        refine r_ml (pc := 135) (i := 11) (j := y) hm dX12_goesOn_135 (by decide) (nI_T (by omega)) (show y < 6 by omega) ?_
        refine r_ms (pc := 136) (i := 11) (j := x) hm dX12_goesOn_136 (by decide) (nI_T (by omega)) (show x < 6 by omega) ?_
        refine r_aload_n (pc := 137) dX12_goesOn_137 rfl ?_
        refine r_getf (pc := 138) (k := 23) dX12_goesOn_138 hX12 eX12 (by decide) fX12_43 (fun _ q => mo hm q) rfl ?_
        refine r_iload (pc := 141) dX12_goesOn_141 rfl ?_
        refine r_iload (pc := 143) dX12_goesOn_143 rfl ?_
        refine r_ms (pc := 145) (i := 11) (j := y) hm dX12_goesOn_145 (by decide) (nI_T (by omega)) (show y < 6 by omega) ?_
        simp only [upA_2, upA_s]
        refine r_iinc1 (pc := 146) dX12_goesOn_146 rfl (Nat.le_of_ble_eq_true rfl) rfl ?_
        dsimp only [lset]
        refine r_iincm (pc := 149) dX12_goesOn_149 rfl (Nat.le_of_ble_eq_true rfl) rfl ?_
        dsimp only [lset]
        refine r_goto (pc := 152) 107 dX12_goesOn_152 (by decide) ?_
        rw [nI_1, show nI y - 1 = nI (y - 1) from nI_sub' (b := 1) (by omega)]
        refine aw_lk (ls' := [some (.ref m), some (.int (nI n)), none, none, none, some (.int (nI (x + 1))), some (.int (nI (y - 1)))]) (show FG _ _ from by repeat (first | exact FG.nil | refine FG.sam ?_ | refine FG.non ?_)) ?_
        exact ih _ _ _ _ (p1.sw (by omega) p2) (by omega) (by omega) (by omega) hr
  -- the two that change places
  have S : ∀ p j, fkN o (n - 1) = p + 1 → p < n → j < n → gjN o (o.getD p 0) (n - 1) = gjN o (o.getD p 0) j → AW (fun _ => True) (rmd 2 0 0) mX12_goesOn 0 0 48 [some (.ref m), some (.int (nI n)), some (.int (nI p)), some (.int (nI j)), none, none, none] [] (MP m h s (upA A 11 a)) (fun v g => v = some (.int (b2i (nxN n o).isSome)) ∧ ∃ a, (∀ o2, nxN n o = some o2 → OA n o2 a) ∧ MP m h s (upA A 11 a) g) := by
    intro p j hp hpn
    have hnx : nxN n o = some (rvN 6 (swN o p (gjN o (o.getD p 0) (n - 1))) (p + 1) (n - 1)) := by
      unfold nxN
      rw [hp, if_neg (Nat.succ_ne_zero p), Nat.add_sub_cancel]
    have gj1 : o.getD p 0 ≤ o.getD (gjN o (o.getD p 0) (n - 1)) 0 := by
      unfold gjOk at gj
      rw [hp, Nat.add_sub_cancel] at gj
      rcases Bool.or_eq_true_iff.mp gj with x | x
      · exact absurd (of_decide_eq_true x) (Nat.succ_ne_zero p)
      · exact of_decide_eq_true x
    have V : ∀ x, x < n → a x = nI (o.getD x 0) ∧ (nI (o.getD x 0)).toInt = (o.getD x 0 : Nat) := fun x hx => ⟨q2 x hx, nI_T (by have := hv x hx; omega)⟩
    have E : ∀ j, j < n → gjN o (o.getD p 0) (n - 1) = j → AW (fun _ => True) (rmd 2 0 0) mX12_goesOn 0 0 69 [some (.ref m), some (.int (nI n)), some (.int (nI p)), some (.int (nI j)), none, none, none] [] (MP m h s (upA A 11 a)) (fun v g => v = some (.int (b2i (nxN n o).isSome)) ∧ ∃ a, (∀ o2, nxN n o = some o2 → OA n o2 a) ∧ MP m h s (upA A 11 a) g) := by
      intro j hj hg2
      rw [hg2] at hnx
      refine r_aload_n (pc := 69) dX12_goesOn_69 rfl ?_
      refine r_getf (pc := 70) (k := 23) dX12_goesOn_70 hX12 eX12 (by decide) fX12_43 (fun _ q => mo hm q) rfl ?_
      refine r_iload_n (pc := 73) dX12_goesOn_73 rfl ?_
      refine r_ml (pc := 74) (i := 11) (j := p) hm dX12_goesOn_74 (by decide) (nI_T (by omega)) (show p < 6 by omega) ?_
      refine r_istore (pc := 75) dX12_goesOn_75 (Nat.le_of_ble_eq_true rfl) rfl ?_
      dsimp only [lset]
      refine r_aload_n (pc := 77) dX12_goesOn_77 rfl ?_
      refine r_getf (pc := 78) (k := 23) dX12_goesOn_78 hX12 eX12 (by decide) fX12_43 (fun _ q => mo hm q) rfl ?_
      refine r_iload_n (pc := 81) dX12_goesOn_81 rfl ?_
      refine r_aload_n (pc := 82) dX12_goesOn_82 rfl ?_
      refine r_getf (pc := 83) (k := 23) dX12_goesOn_83 hX12 eX12 (by decide) fX12_43 (fun _ q => mo hm q) rfl ?_
      refine r_iload_n (pc := 86) dX12_goesOn_86 rfl ?_
      refine r_ml (pc := 87) (i := 11) (j := j) hm dX12_goesOn_87 (by decide) (nI_T (by omega)) (show j < 6 by omega) ?_
      refine r_ms (pc := 88) (i := 11) (j := p) hm dX12_goesOn_88 (by decide) (nI_T (by omega)) (show p < 6 by omega) ?_
      refine r_aload_n (pc := 89) dX12_goesOn_89 rfl ?_
      refine r_getf (pc := 90) (k := 23) dX12_goesOn_90 hX12 eX12 (by decide) fX12_43 (fun _ q => mo hm q) rfl ?_
      refine r_iload_n (pc := 93) dX12_goesOn_93 rfl ?_
      refine r_iload (pc := 94) dX12_goesOn_94 rfl ?_
      refine r_ms (pc := 96) (i := 11) (j := j) hm dX12_goesOn_96 (by decide) (nI_T (by omega)) (show j < 6 by omega) ?_
      simp only [upA_2, upA_s]
      refine r_iload_n (pc := 97) dX12_goesOn_97 rfl ?_
      refine r_iconst (pc := 98) (v := 1) dX12_goesOn_98 (by decide) ?_
      refine r_iadd (pc := 99) dX12_goesOn_99 ?_
      refine r_istore (pc := 100) dX12_goesOn_100 (Nat.le_of_ble_eq_true rfl) rfl ?_
      dsimp only [lset]
      refine r_iload_n (pc := 102) dX12_goesOn_102 rfl ?_
      refine r_iconst (pc := 103) (v := 1) dX12_goesOn_103 (by decide) ?_
      refine r_isub (pc := 104) dX12_goesOn_104 ?_
      refine r_istore (pc := 105) dX12_goesOn_105 (Nat.le_of_ble_eq_true rfl) rfl ?_
      dsimp only [lset]
      rw [nI_1, show nI n - 1 = nI (n - 1) from nI_sub' (b := 1) (by omega)]
      refine aw_lk (ls' := [some (.ref m), some (.int (nI n)), none, none, none, some (.int (nI (p + 1))), some (.int (nI (n - 1)))]) (show FG _ _ from by repeat (first | exact FG.nil | refine FG.sam ?_ | refine FG.non ?_)) ?_
      exact R 6 _ _ (p + 1) (n - 1) (OA.sw ⟨q1, q2⟩ hpn hj) (by omega) (by omega) (by omega) hnx
    induction j with
    | zero =>
      intro hj hg2
      obtain ⟨v1, v2⟩ := V 0 hj
      obtain ⟨w1, w2⟩ := V p hpn
      refine r_aload_n (pc := 48) dX12_goesOn_48 rfl ?_
      refine r_getf (pc := 49) (k := 23) dX12_goesOn_49 hX12 eX12 (by decide) fX12_43 (fun _ q => mo hm q) rfl ?_
      refine r_iload_n (pc := 52) dX12_goesOn_52 rfl ?_
      refine r_ml (pc := 53) (i := 11) (j := 0) hm dX12_goesOn_53 (by decide) (nI_T (by omega)) (show 0 < 6 by omega) ?_
      refine r_aload_n (pc := 54) dX12_goesOn_54 rfl ?_
      refine r_getf (pc := 55) (k := 23) dX12_goesOn_55 hX12 eX12 (by decide) fX12_43 (fun _ q => mo hm q) rfl ?_
      refine r_iload_n (pc := 58) dX12_goesOn_58 rfl ?_
      refine r_ml (pc := 59) (i := 11) (j := p) hm dX12_goesOn_59 (by decide) (nI_T (by omega)) (show p < 6 by omega) ?_
      rw [upA_s, v1, w1]
      refine r_icmp_ge (pc := 60) 69 dX12_goesOn_60 (by decide) (fun c60 => ?_) (fun c60 => ?_)
      · skip
        exact E 0 hj hg2
      · skip
        rw [hg2] at gj1; exact absurd (fa_le.mpr (by rw [v2, w2]; exact Int.ofNat_le.mpr gj1)) c60
    | succ j ih =>
      intro hj hg2
      obtain ⟨v1, v2⟩ := V (j + 1) hj
      obtain ⟨w1, w2⟩ := V p hpn
      refine r_aload_n (pc := 48) dX12_goesOn_48 rfl ?_
      refine r_getf (pc := 49) (k := 23) dX12_goesOn_49 hX12 eX12 (by decide) fX12_43 (fun _ q => mo hm q) rfl ?_
      refine r_iload_n (pc := 52) dX12_goesOn_52 rfl ?_
      refine r_ml (pc := 53) (i := 11) (j := j + 1) hm dX12_goesOn_53 (by decide) (nI_T (by omega)) (show j + 1 < 6 by omega) ?_
      refine r_aload_n (pc := 54) dX12_goesOn_54 rfl ?_
      refine r_getf (pc := 55) (k := 23) dX12_goesOn_55 hX12 eX12 (by decide) fX12_43 (fun _ q => mo hm q) rfl ?_
      refine r_iload_n (pc := 58) dX12_goesOn_58 rfl ?_
      refine r_ml (pc := 59) (i := 11) (j := p) hm dX12_goesOn_59 (by decide) (nI_T (by omega)) (show p < 6 by omega) ?_
      rw [upA_s, v1, w1]
      refine r_icmp_ge (pc := 60) 69 dX12_goesOn_60 (by decide) (fun c60 => ?_) (fun c60 => ?_)
      · skip
        have c := fa_le.mp c60
        rw [v2, w2] at c
        have c := Int.ofNat_le.mp c
        exact E (j + 1) hj (by rw [hg2]; exact if_neg (by omega))
        skip
      · skip
        have c : o.getD (j + 1) 0 < o.getD p 0 := by
          refine Classical.byContradiction fun e => c60 (fa_le.mpr (by rw [v2, w2]; exact Int.ofNat_le.mpr (by omega)))
        refine r_iincm (pc := 63) dX12_goesOn_63 rfl (Nat.le_of_ble_eq_true rfl) rfl ?_
        dsimp only [lset]
        refine r_goto (pc := 66) 48 dX12_goesOn_66 (by decide) ?_
        rw [show nI (j + 1) - 1 = nI j from nI_sub' (a := j + 1) (b := 1) (by omega)]
        exact ih (by omega) (by rw [hg2]; exact if_pos c)
  have T : ∀ k, k < n → fkN o (n - 1) = fkN o k → AW (fun _ => True) (rmd 2 0 0) mX12_goesOn 0 0 11 [some (.ref m), some (.int (nI n)), some (.int (nI k - 1)), none, none, none, none] [] (MP m h s (upA A 11 a)) (fun v g => v = some (.int (b2i (nxN n o).isSome)) ∧ ∃ a, (∀ o2, nxN n o = some o2 → OA n o2 a) ∧ MP m h s (upA A 11 a) g) := by
    intro k
    induction k with
    | zero =>
      intro hk e
      have hnx : nxN n o = none := if_pos e
      rw [hnx]
      refine r_iload_n (pc := 11) dX12_goesOn_11 rfl ?_
      refine r_if_lt (pc := 12) 38 dX12_goesOn_12 (by decide) (fun c12 => ?_) (fun c12 => ?_)
      · skip
        refine r_iload_n (pc := 38) dX12_goesOn_38 rfl ?_
        refine r_if_ge (pc := 39) 44 dX12_goesOn_39 (by decide) (fun c39 => ?_) (fun c39 => ?_)
        · skip
          exact absurd c39 (by decide)
        · skip
          refine r_iconst (pc := 42) (v := 0) dX12_goesOn_42 (by decide) ?_
          refine r_ireturn (pc := 43) (ty := .boolean) dX12_goesOn_43 rfl rfl ⟨Nat.zero_le _, Nat.zero_le _⟩ (fun gE hg => ?_)
          exact ⟨rfl, _, fun o2 e => absurd e (by simp), hg⟩
      · skip
        exact absurd (by decide : (nI 0 - 1 : Int32) < 0) c12
    | succ k ih =>
      intro hk e
      have Tk := nI_T (n := k) (by omega)
      rw [show nI (k + 1) - 1 = nI k from nI_sub' (a := k + 1) (b := 1) (by omega)]
      have v1 := q2 k (by omega)
      have v2 := nI_T (n := o.getD k 0) (by have := hv k (by omega); omega)
      have w1 := q2 (k + 1) (by omega)
      have w2 := nI_T (n := o.getD (k + 1) 0) (by have := hv (k + 1) (by omega); omega)
      refine r_iload_n (pc := 11) dX12_goesOn_11 rfl ?_
      refine r_if_lt (pc := 12) 38 dX12_goesOn_12 (by decide) (fun c12 => ?_) (fun c12 => ?_)
      · skip
        exact absurd c12 (fun x => by have := fa_lt.mp x; rw [Tk, t0] at this; omega)
      · skip
        refine r_aload_n (pc := 15) dX12_goesOn_15 rfl ?_
        refine r_getf (pc := 16) (k := 23) dX12_goesOn_16 hX12 eX12 (by decide) fX12_43 (fun _ q => mo hm q) rfl ?_
        refine r_iload_n (pc := 19) dX12_goesOn_19 rfl ?_
        refine r_ml (pc := 20) (i := 11) (j := k) hm dX12_goesOn_20 (by decide) (nI_T (by omega)) (show k < 6 by omega) ?_
        refine r_aload_n (pc := 21) dX12_goesOn_21 rfl ?_
        refine r_getf (pc := 22) (k := 23) dX12_goesOn_22 hX12 eX12 (by decide) fX12_43 (fun _ q => mo hm q) rfl ?_
        refine r_iload_n (pc := 25) dX12_goesOn_25 rfl ?_
        refine r_iconst (pc := 26) (v := 1) dX12_goesOn_26 (by decide) ?_
        refine r_iadd (pc := 27) dX12_goesOn_27 ?_
        rw [nI_1]
        refine r_ml (pc := 28) (i := 11) (j := k + 1) hm dX12_goesOn_28 (by decide) (nI_T (by omega)) (show k + 1 < 6 by omega) ?_
        rw [upA_s, v1, w1]
        refine r_icmp_le (pc := 29) 38 dX12_goesOn_29 (by decide) (fun c29 => ?_) (fun c29 => ?_)
        · skip
          have c := fa_le.mp c29
          rw [v2, w2] at c
          have c := Int.ofNat_le.mp c
          have e2 : fkN o (n - 1) = k + 1 := by rw [e]; exact if_neg (by omega)
          refine r_iload_n (pc := 38) dX12_goesOn_38 rfl ?_
          refine r_if_ge (pc := 39) 44 dX12_goesOn_39 (by decide) (fun c39 => ?_) (fun c39 => ?_)
          · skip
            refine r_iload_n (pc := 44) dX12_goesOn_44 rfl ?_
            refine r_iconst (pc := 45) (v := 1) dX12_goesOn_45 (by decide) ?_
            refine r_isub (pc := 46) dX12_goesOn_46 ?_
            refine r_istore_n (pc := 47) dX12_goesOn_47 rfl (Nat.le_of_ble_eq_true rfl) rfl ?_
            dsimp only [lset]
            rw [show nI n - 1 = nI (n - 1) from nI_sub' (b := 1) (by omega)]
            exact S k (n - 1) e2 (by omega) (by omega) rfl
          · skip
            exact absurd (by rw [i32_le0, Tk]; omega) c39
        · skip
          have c : o.getD (k + 1) 0 < o.getD k 0 := by
            refine Classical.byContradiction fun e => c29 (fa_le.mpr (by rw [v2, w2]; exact Int.ofNat_le.mpr (by omega)))
          refine r_iincm (pc := 32) dX12_goesOn_32 rfl (Nat.le_of_ble_eq_true rfl) rfl ?_
          dsimp only [lset]
          refine r_goto (pc := 35) 11 dX12_goesOn_35 (by decide) ?_
          exact ih (by omega) (by rw [e]; exact if_pos c)
  refine aw_P (P' := MP m h s (upA A 11 a)) (fun g q => by rw [ha, upA_id]; exact q) ?_
  refine r_aload_n (pc := 0) dX12_goesOn_0 rfl ?_
  refine r_getf (pc := 1) (k := 0) dX12_goesOn_1 hX12 eX12 (by decide) fX12_7 (fun _ q => mo hm q) rfl ?_
  refine r_iconst (pc := 4) (v := 1) dX12_goesOn_4 (by decide) ?_
  refine r_ml (pc := 5) (i := 0) (j := 1) hm dX12_goesOn_5 (by decide) rfl (by decide) ?_
  rw [A01]
  refine r_istore_n (pc := 6) dX12_goesOn_6 rfl (Nat.le_of_ble_eq_true rfl) rfl ?_
  dsimp only [lset]
  refine r_iload_n (pc := 7) dX12_goesOn_7 rfl ?_
  refine r_iconst (pc := 8) (v := 2) dX12_goesOn_8 (by decide) ?_
  refine r_isub (pc := 9) dX12_goesOn_9 ?_
  refine r_istore_n (pc := 10) dX12_goesOn_10 rfl (Nat.le_of_ble_eq_true rfl) rfl ?_
  dsimp only [lset]
  rw [show nI n - 2 = nI (n - 1) - 1 from by rw [← nI_sub' (a := n) (b := 1) (by omega)]; rw [Int32.sub_sub]; rfl]
  exact T (n - 1) (by omega) rfl
end Mleast
