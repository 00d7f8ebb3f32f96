/-! ROWS OF NUMBERS (OneGoCeiling$Row): a row at r, its array at r + 1 -/
/-- the row at r, of at most cap numbers, holds n numbers f; all else is as in h0 -/
def RowR (r cap : Nat) (h0 : AH) (n : Int32) (f : Nat → Int32) (g : AH) : Prop :=
  g.1 = h0.1 ∧ r + 1 < g.1 ∧ g.2 r = .inr (.inr (4, [.ref (r + 1), .int n])) ∧ g.2 (r + 1) = .inl (cap, f) ∧ ∀ j, j ≠ r → j ≠ r + 1 → g.2 j = h0.2 j
theorem RowR.o {r cap : Nat} {h0 g : AH} {n : Int32} {f : Nat → Int32} (q : RowR r cap h0 n f g) : r < g.1 ∧ g.2 r = .inr (.inr (4, [.ref (r + 1), .int n])) := ⟨Nat.lt_of_succ_lt q.2.1, q.2.2.1⟩
theorem RowR.a {r cap : Nat} {h0 g : AH} {n : Int32} {f : Nat → Int32} (q : RowR r cap h0 n f g) : r + 1 < g.1 ∧ g.2 (r + 1) = .inl (cap, f) := ⟨q.2.1, q.2.2.2.1⟩
theorem RowR.putN {r cap : Nat} {h0 g : AH} {n n' : Int32} {f : Nat → Int32} (q : RowR r cap h0 n f g) : RowR r cap h0 n' f (hset g r (.inr (.inr (4, [.ref (r + 1), .int n'])))) := by
  obtain ⟨q1, q2, q3, q4, q5⟩ := q
  refine ⟨q1, q2, hset_same _ _ _, ?_, fun j h1 h2 => ?_⟩
  · rw [hset_ne _ _ (by omega)]; exact q4
  · rw [hset_ne _ _ h1]; exact q5 j h1 h2
theorem RowR.putA {r cap : Nat} {h0 g : AH} {n : Int32} {f f' : Nat → Int32} (q : RowR r cap h0 n f g) : RowR r cap h0 n f' (hset g (r + 1) (.inl (cap, f'))) := by
  obtain ⟨q1, q2, q3, q4, q5⟩ := q
  refine ⟨q1, q2, ?_, hset_same _ _ _, fun j h1 h2 => ?_⟩
  · rw [hset_ne _ _ (by omega)]; exact q3
  · rw [hset_ne _ _ h2]; exact q5 j h1 h2
/-- what the row at r holds: a list -/
def RowAt (r cap : Nat) (l : List Int32) (g : AH) : Prop :=
  r + 1 < g.1 ∧ l.length ≤ cap ∧ cap ≤ 4000 ∧ ∃ f : Nat → Int32, g.2 r = .inr (.inr (4, [.ref (r + 1), .int (nI l.length)])) ∧ g.2 (r + 1) = .inl (cap, f) ∧ ∀ j, j < l.length → f j = l.getD j 0
/-- nothing but the cells lo .. lo + w - 1 changed -/
def Off (lo w : Nat) (h g : AH) : Prop := g.1 = h.1 ∧ ∀ j, (j < lo ∨ lo + w ≤ j) → g.2 j = h.2 j
theorem Off.rf (lo w : Nat) (h : AH) : Off lo w h h := ⟨rfl, fun _ _ => rfl⟩
theorem Off.tr {lo w : Nat} {h g k : AH} (a : Off lo w h g) (b : Off lo w g k) : Off lo w h k := ⟨b.1.trans a.1, fun j hj => (b.2 j hj).trans (a.2 j hj)⟩
theorem Off.wide {lo w lo' w' : Nat} {h g : AH} (a : Off lo w h g) (h1 : lo' ≤ lo) (h2 : lo + w ≤ lo' + w') : Off lo' w' h g := ⟨a.1, fun j hj => a.2 j (by omega)⟩
theorem RowAt.off {r cap : Nat} {l : List Int32} {h g : AH} (q : RowAt r cap l h) {lo w : Nat} (o : Off lo w h g) (hd : r + 2 ≤ lo ∨ lo + w ≤ r) : RowAt r cap l g := by
  obtain ⟨q1, q2, q3, f, q4, q5, q6⟩ := q
  exact ⟨by rw [o.1]; exact q1, q2, q3, f, by rw [o.2 r (by omega)]; exact q4, by rw [o.2 (r + 1) (by omega)]; exact q5, q6⟩
theorem RowAt.R {r cap : Nat} {l : List Int32} {h : AH} (q : RowAt r cap l h) : ∃ f : Nat → Int32, RowR r cap h (nI l.length) f h ∧ ∀ j, j < l.length → f j = l.getD j 0 := by
  obtain ⟨q1, q2, q3, f, q4, q5, q6⟩ := q
  exact ⟨f, ⟨rfl, q1, q4, q5, fun _ _ _ => rfl⟩, q6⟩
theorem RowR.at {r cap : Nat} {l : List Int32} {h g : AH} {f : Nat → Int32} (q : RowR r cap h (nI l.length) f g) (h1 : l.length ≤ cap) (h2 : cap ≤ 4000) (h3 : ∀ j, j < l.length → f j = l.getD j 0) : RowAt r cap l g ∧ Off r 2 h g :=
  ⟨⟨q.2.1, h1, h2, f, q.2.2.1, q.2.2.2.1, h3⟩, q.1, fun j hj => q.2.2.2.2 j (by omega) (by omega)⟩
theorem RowAt.V {r cap : Nat} {l : List Int32} {g : AH} (q : RowAt r cap l g) : ∃ (fs : List Value) (T : u_T) (N : Nat), r < g.1 ∧ g.2 r = .inr (.inr (4, fs)) ∧ vwCl[4]? = some (RX5, T, N) := by
  obtain ⟨q1, q2, q3, f, q4, q5, q6⟩ := q
  exact ⟨_, _, _, by omega, q4, rfl⟩
-- numbers
theorem getD_out {l : List Int32} {n : Nat} (h : l.length ≤ n) : l.getD n 0 = 0 := by rw [List.getD_eq_getElem?_getD, List.getElem?_eq_none h]; rfl
theorem getD_in {l : List Int32} {n : Nat} (h : n < l.length) : l.getD n 0 = l[n] := by rw [List.getD_eq_getElem?_getD, List.getElem?_eq_getElem h]; rfl
theorem getD_set {l : List Int32} {n j : Nat} {v : Int32} (h : n < l.length) : (l.set n v).getD j 0 = if j = n then v else l.getD j 0 := by
  rw [List.getD_eq_getElem?_getD, List.getElem?_set, List.getD_eq_getElem?_getD]
  by_cases e : j = n
  · subst e; simp [h]
  · rw [if_neg (Ne.symm e), if_neg e]
def inI (i : Int32) (n : Nat) : Prop := 0 ≤ i.toInt ∧ i.toInt < n
def atL (l : List Int32) (i : Int32) : Int32 := if 0 ≤ i.toInt then l.getD i.toInt.toNat 0 else 0
def wrL (l : List Int32) (i v : Int32) : List Int32 := if 0 ≤ i.toInt then l.set i.toInt.toNat v else l
def hasL (l : List Int32) (i : Int32) : Bool := decide (0 ≤ i.toInt ∧ i.toInt < l.length)
def b2i (b : Bool) : Int32 := if b then 1 else 0
theorem b2i_t : b2i true = 1 := rfl
theorem b2i_f : b2i false = 0 := rfl
theorem i32_lt0 {i : Int32} : i < 0 ↔ i.toInt < 0 := Int32.lt_iff_toInt_lt
theorem i32_le0 {i : Int32} : 0 ≤ i ↔ 0 ≤ i.toInt := Int32.le_iff_toInt_le
theorem fa_lt {a b : Int32} : a < b ↔ a.toInt < b.toInt := Int32.lt_iff_toInt_lt
theorem fa_le {a b : Int32} : a ≤ b ↔ a.toInt ≤ b.toInt := Int32.le_iff_toInt_le
theorem fa_eq {a b : Int32} : a = b ↔ a.toInt = b.toInt := Int32.toInt_inj.symm
theorem t0 : (0 : Int32).toInt = 0 := rfl
theorem t1 : (1 : Int32).toInt = 1 := rfl
theorem ge0 {i : Int32} (h : ¬ i < 0) : 0 ≤ i.toInt := by rw [fa_lt, t0] at h; omega
theorem ix_hi {i : Int32} (h : ¬ i < 0) : i.toInt = ((i.toInt.toNat : Nat) : Int) := by have := ge0 h; omega
theorem nI_T {n : Nat} (h : n ≤ 4000) : (nI n).toInt = (n : Int) := nI_toInt (by omega)
theorem lt_nI {i : Int32} {n : Nat} (hn : n ≤ 4000) (h : ¬ nI n ≤ i) : i.toInt < n := by rw [fa_le, nI_T hn] at h; omega
theorem le_nI {i : Int32} {n : Nat} (hn : n ≤ 4000) (h : nI n ≤ i) : (n : Int) ≤ i.toInt := by rw [fa_le, nI_T hn] at h; omega
set_option maxHeartbeats 4000000 in
theorem ct_Row_length {r cap : Nat} {l : List Int32} {g : AH} {P' : AH → Prop} (hR : RowAt r cap l g) (hP : P' g) : CV 1 0 0 mX5_length r [] g (fun v g' => v = some (.int (nI l.length)) ∧ P' g') := by
  refine ⟨hR.V, ?_⟩
  refine ct_of (by decide) (fun _ _ => Nat.le_of_ble_eq_true rfl) ?_
  dsimp only [pad, ent]
  obtain ⟨f, hr, hf⟩ := hR.R
  refine aw_P (P' := fun g' => RowR r cap g (nI l.length) f g' ∧ g' = g) (fun g' e => by subst e; exact ⟨hr, rfl⟩) ?_
  refine r_aload_n (pc := 0) dX5_length_0 rfl ?_
  refine r_getf (pc := 1) (k := 1) dX5_length_1 hX5 eX5 (by decide) fX5_7 (fun _ q => q.1.o) rfl ?_
  refine r_ireturn (pc := 4) (ty := .int) dX5_length_4 rfl rfl ⟨Nat.zero_le _, Nat.zero_le _⟩ (fun gE hg => ?_)
  exact ⟨rfl, by rw [hg.2]; exact hP⟩
set_option maxHeartbeats 4000000 in
theorem ct_Row_at {r cap : Nat} {l : List Int32} {i : Int32} {g : AH} {P' : AH → Prop} (hR : RowAt r cap l g) (hP : P' g) : CV 1 0 0 mX5_at r [.int i] g (fun v g' => v = some (.int (atL l i)) ∧ P' g') := by
  refine ⟨hR.V, ?_⟩
  refine ct_of (by decide) (fun _ _ => Nat.le_of_ble_eq_true rfl) ?_
  dsimp only [pad, ent]
  obtain ⟨f, hr, hf⟩ := hR.R
  have hn := hR.2.1
  have hc := hR.2.2.1
  have hT := nI_T (n := l.length) (by omega)
  have hT2 := nI_T (n := cap) hc
  refine aw_P (P' := fun g' => RowR r cap g (nI l.length) f g' ∧ g' = g) (fun g' e => by subst e; exact ⟨hr, rfl⟩) ?_
  refine r_iload_n (pc := 0) dX5_at_0 rfl ?_
  refine r_if_lt (pc := 1) 30 dX5_at_1 (by decide) (fun c1 => ?_) (fun c1 => ?_)
  · skip
    have k1 := i32_lt0.mp c1
    refine r_iconst (pc := 30) (v := 0) dX5_at_30 (by decide) ?_
    refine r_ireturn (pc := 31) (ty := .int) dX5_at_31 rfl rfl ⟨Nat.zero_le _, Nat.zero_le _⟩ (fun gE hg => ?_)
    refine ⟨?_, by rw [hg.2]; exact hP⟩
    unfold atL
    first
    | (rw [if_pos (by omega), hf _ (by omega)]; done)
    | (rw [if_neg (by omega)]; done)
    | (rw [if_pos (by omega), getD_out (by omega)]; done)
    | omega
  · skip
    have k1 := ge0 c1
    refine r_iload_n (pc := 4) dX5_at_4 rfl ?_
    refine r_aload_n (pc := 5) dX5_at_5 rfl ?_
    refine r_getf (pc := 6) (k := 1) dX5_at_6 hX5 eX5 (by decide) fX5_7 (fun _ q => q.1.o) rfl ?_
    refine r_icmp_ge (pc := 9) 30 dX5_at_9 (by decide) (fun c9 => ?_) (fun c9 => ?_)
    · skip
      have k9 := le_nI (by omega) c9
      refine r_iconst (pc := 30) (v := 0) dX5_at_30 (by decide) ?_
      refine r_ireturn (pc := 31) (ty := .int) dX5_at_31 rfl rfl ⟨Nat.zero_le _, Nat.zero_le _⟩ (fun gE hg => ?_)
      refine ⟨?_, by rw [hg.2]; exact hP⟩
      unfold atL
      first
      | (rw [if_pos (by omega), hf _ (by omega)]; done)
      | (rw [if_neg (by omega)]; done)
      | (rw [if_pos (by omega), getD_out (by omega)]; done)
      | omega
    · skip
      have k9 := lt_nI (by omega) c9
      refine r_iload_n (pc := 12) dX5_at_12 rfl ?_
      refine r_aload_n (pc := 13) dX5_at_13 rfl ?_
      refine r_getf (pc := 14) (k := 0) dX5_at_14 hX5 eX5 (by decide) fX5_19 (fun _ q => q.1.o) rfl ?_
      refine r_alen (pc := 17) (v := nI cap) dX5_at_17 (fun _ q => q.1.a) rfl ?_
      refine r_icmp_ge (pc := 18) 30 dX5_at_18 (by decide) (fun c18 => ?_) (fun c18 => ?_)
      · skip
        have k18 := le_nI hc c18
        refine r_iconst (pc := 30) (v := 0) dX5_at_30 (by decide) ?_
        refine r_ireturn (pc := 31) (ty := .int) dX5_at_31 rfl rfl ⟨Nat.zero_le _, Nat.zero_le _⟩ (fun gE hg => ?_)
        refine ⟨?_, by rw [hg.2]; exact hP⟩
        unfold atL
        first
        | (rw [if_pos (by omega), hf _ (by omega)]; done)
        | (rw [if_neg (by omega)]; done)
        | (rw [if_pos (by omega), getD_out (by omega)]; done)
        | omega
      · skip
        have k18 := lt_nI hc c18
        refine r_aload_n (pc := 21) dX5_at_21 rfl ?_
        refine r_getf (pc := 22) (k := 0) dX5_at_22 hX5 eX5 (by decide) fX5_19 (fun _ q => q.1.o) rfl ?_
        refine r_iload_n (pc := 25) dX5_at_25 rfl ?_
        refine r_iald (pc := 26) (j := i.toInt.toNat) dX5_at_26 (fun _ q => q.1.a) (ix_hi c1) (by have := lt_nI hc c18; have := ge0 c1; omega) ?_
        refine r_goto (pc := 27) 31 dX5_at_27 (by decide) ?_
        refine r_ireturn (pc := 31) (ty := .int) dX5_at_31 rfl rfl ⟨Nat.zero_le _, Nat.zero_le _⟩ (fun gE hg => ?_)
        refine ⟨?_, by rw [hg.2]; exact hP⟩
        unfold atL
        first
        | (rw [if_pos (by omega), hf _ (by omega)]; done)
        | (rw [if_neg (by omega)]; done)
        | (rw [if_pos (by omega), getD_out (by omega)]; done)
        | omega
set_option maxHeartbeats 4000000 in
theorem ct_Row_has {r cap : Nat} {l : List Int32} {i : Int32} {g : AH} {P' : AH → Prop} (hR : RowAt r cap l g) (hP : P' g) : CV 1 0 0 mX5_has r [.int i] g (fun v g' => v = some (.int (b2i (hasL l i))) ∧ P' g') := by
  refine ⟨hR.V, ?_⟩
  refine ct_of (by decide) (fun _ _ => Nat.le_of_ble_eq_true rfl) ?_
  dsimp only [pad, ent]
  obtain ⟨f, hr, hf⟩ := hR.R
  have hn := hR.2.1
  have hc := hR.2.2.1
  refine aw_P (P' := fun g' => RowR r cap g (nI l.length) f g' ∧ g' = g) (fun g' e => by subst e; exact ⟨hr, rfl⟩) ?_
  refine r_iload_n (pc := 0) dX5_has_0 rfl ?_
  refine r_if_lt (pc := 1) 25 dX5_has_1 (by decide) (fun c1 => ?_) (fun c1 => ?_)
  · skip
    have k1 := i32_lt0.mp c1
    refine r_iconst (pc := 25) (v := 0) dX5_has_25 (by decide) ?_
    refine r_ireturn (pc := 26) (ty := .boolean) dX5_has_26 rfl rfl ⟨Nat.zero_le _, Nat.zero_le _⟩ (fun gE hg => ?_)
    refine ⟨?_, by rw [hg.2]; exact hP⟩
    unfold hasL
    first
    | (rw [decide_eq_true (by omega)]; rfl)
    | (rw [decide_eq_false (by omega)]; rfl)
  · skip
    have k1 := ge0 c1
    refine r_iload_n (pc := 4) dX5_has_4 rfl ?_
    refine r_aload_n (pc := 5) dX5_has_5 rfl ?_
    refine r_getf (pc := 6) (k := 1) dX5_has_6 hX5 eX5 (by decide) fX5_7 (fun _ q => q.1.o) rfl ?_
    refine r_icmp_ge (pc := 9) 25 dX5_has_9 (by decide) (fun c9 => ?_) (fun c9 => ?_)
    · skip
      have k9 := le_nI (by omega) c9
      refine r_iconst (pc := 25) (v := 0) dX5_has_25 (by decide) ?_
      refine r_ireturn (pc := 26) (ty := .boolean) dX5_has_26 rfl rfl ⟨Nat.zero_le _, Nat.zero_le _⟩ (fun gE hg => ?_)
      refine ⟨?_, by rw [hg.2]; exact hP⟩
      unfold hasL
      first
      | (rw [decide_eq_true (by omega)]; rfl)
      | (rw [decide_eq_false (by omega)]; rfl)
    · skip
      have k9 := lt_nI (by omega) c9
      refine r_iload_n (pc := 12) dX5_has_12 rfl ?_
      refine r_aload_n (pc := 13) dX5_has_13 rfl ?_
      refine r_getf (pc := 14) (k := 0) dX5_has_14 hX5 eX5 (by decide) fX5_19 (fun _ q => q.1.o) rfl ?_
      refine r_alen (pc := 17) (v := nI cap) dX5_has_17 (fun _ q => q.1.a) rfl ?_
      refine r_icmp_ge (pc := 18) 25 dX5_has_18 (by decide) (fun c18 => ?_) (fun c18 => ?_)
      · skip
        have k18 := le_nI hc c18
        refine r_iconst (pc := 25) (v := 0) dX5_has_25 (by decide) ?_
        refine r_ireturn (pc := 26) (ty := .boolean) dX5_has_26 rfl rfl ⟨Nat.zero_le _, Nat.zero_le _⟩ (fun gE hg => ?_)
        refine ⟨?_, by rw [hg.2]; exact hP⟩
        unfold hasL
        first
        | (rw [decide_eq_true (by omega)]; rfl)
        | (rw [decide_eq_false (by omega)]; rfl)
      · skip
        have k18 := lt_nI hc c18
        refine r_iconst (pc := 21) (v := 1) dX5_has_21 (by decide) ?_
        refine r_goto (pc := 22) 26 dX5_has_22 (by decide) ?_
        refine r_ireturn (pc := 26) (ty := .boolean) dX5_has_26 rfl rfl ⟨Nat.zero_le _, Nat.zero_le _⟩ (fun gE hg => ?_)
        refine ⟨?_, by rw [hg.2]; exact hP⟩
        unfold hasL
        first
        | (rw [decide_eq_true (by omega)]; rfl)
        | (rw [decide_eq_false (by omega)]; rfl)
set_option maxHeartbeats 4000000 in
theorem ct_Row_hasRun {r cap : Nat} {l : List Int32} {i n : Int32} {g : AH} {P' : AH → Prop} (hR : RowAt r cap l g) (hP : P' g) : CV 1 0 0 mX5_hasRun r [.int i, .int n] g (fun v g' => v = some (.int (b2i (decide (0 ≤ i.toInt ∧ 0 ≤ n.toInt ∧ i.toInt + n.toInt ≤ l.length)))) ∧ P' g') := by
  refine ⟨hR.V, ?_⟩
  refine ct_of (by decide) (fun _ _ => Nat.le_of_ble_eq_true rfl) ?_
  dsimp only [pad, ent]
  obtain ⟨f, hr, hf⟩ := hR.R
  have hn := hR.2.1
  have hc := hR.2.2.1
  refine aw_P (P' := fun g' => RowR r cap g (nI l.length) f g' ∧ g' = g) (fun g' e => by subst e; exact ⟨hr, rfl⟩) ?_
  have hT := nI_T (n := l.length) (by omega)
  refine r_iload_n (pc := 0) dX5_hasRun_0 rfl ?_
  refine r_if_lt (pc := 1) 30 dX5_hasRun_1 (by decide) (fun c1 => ?_) (fun c1 => ?_)
  · skip
    refine r_iconst (pc := 30) (v := 0) dX5_hasRun_30 (by decide) ?_
    refine r_ireturn (pc := 31) (ty := .boolean) dX5_hasRun_31 rfl rfl ⟨Nat.zero_le _, Nat.zero_le _⟩ (fun gE hg => ?_)
    refine ⟨?_, by rw [hg.2]; exact hP⟩
    have hT := nI_T (n := l.length) (by omega)
    simp only [fa_lt, fa_le, t0, hT] at *
    first
    | (rw [decide_eq_true (by omega)]; rfl)
    | (rw [decide_eq_false (by omega)]; rfl)
    | (have hT := nI_T (n := l.length) (by omega)
       have hs : (nI l.length - n).toInt = (l.length : Int) - n.toInt := by
          rw [Int32.toInt_sub, hT]
          exact Int.bmod_eq_of_le (by omega) (by omega)
       simp only [hs] at *
       first
       | (rw [decide_eq_true (by omega)]; rfl)
       | (rw [decide_eq_false (by omega)]; rfl))
  · skip
    refine r_iload_n (pc := 4) dX5_hasRun_4 rfl ?_
    refine r_if_lt (pc := 5) 30 dX5_hasRun_5 (by decide) (fun c5 => ?_) (fun c5 => ?_)
    · skip
      refine r_iconst (pc := 30) (v := 0) dX5_hasRun_30 (by decide) ?_
      refine r_ireturn (pc := 31) (ty := .boolean) dX5_hasRun_31 rfl rfl ⟨Nat.zero_le _, Nat.zero_le _⟩ (fun gE hg => ?_)
      refine ⟨?_, by rw [hg.2]; exact hP⟩
      have hT := nI_T (n := l.length) (by omega)
      simp only [fa_lt, fa_le, t0, hT] at *
      first
      | (rw [decide_eq_true (by omega)]; rfl)
      | (rw [decide_eq_false (by omega)]; rfl)
      | (have hT := nI_T (n := l.length) (by omega)
         have hs : (nI l.length - n).toInt = (l.length : Int) - n.toInt := by
            rw [Int32.toInt_sub, hT]
            exact Int.bmod_eq_of_le (by omega) (by omega)
         simp only [hs] at *
         first
         | (rw [decide_eq_true (by omega)]; rfl)
         | (rw [decide_eq_false (by omega)]; rfl))
    · skip
      refine r_iload_n (pc := 8) dX5_hasRun_8 rfl ?_
      refine r_aload_n (pc := 9) dX5_hasRun_9 rfl ?_
      refine r_getf (pc := 10) (k := 1) dX5_hasRun_10 hX5 eX5 (by decide) fX5_7 (fun _ q => q.1.o) rfl ?_
      refine r_icmp_gt (pc := 13) 30 dX5_hasRun_13 (by decide) (fun c13 => ?_) (fun c13 => ?_)
      · skip
        refine r_iconst (pc := 30) (v := 0) dX5_hasRun_30 (by decide) ?_
        refine r_ireturn (pc := 31) (ty := .boolean) dX5_hasRun_31 rfl rfl ⟨Nat.zero_le _, Nat.zero_le _⟩ (fun gE hg => ?_)
        refine ⟨?_, by rw [hg.2]; exact hP⟩
        have hT := nI_T (n := l.length) (by omega)
        simp only [fa_lt, fa_le, t0, hT] at *
        first
        | (rw [decide_eq_true (by omega)]; rfl)
        | (rw [decide_eq_false (by omega)]; rfl)
        | (have hT := nI_T (n := l.length) (by omega)
           have hs : (nI l.length - n).toInt = (l.length : Int) - n.toInt := by
              rw [Int32.toInt_sub, hT]
              exact Int.bmod_eq_of_le (by omega) (by omega)
           simp only [hs] at *
           first
           | (rw [decide_eq_true (by omega)]; rfl)
           | (rw [decide_eq_false (by omega)]; rfl))
      · skip
        refine r_iload_n (pc := 16) dX5_hasRun_16 rfl ?_
        refine r_aload_n (pc := 17) dX5_hasRun_17 rfl ?_
        refine r_getf (pc := 18) (k := 1) dX5_hasRun_18 hX5 eX5 (by decide) fX5_7 (fun _ q => q.1.o) rfl ?_
        refine r_iload_n (pc := 21) dX5_hasRun_21 rfl ?_
        refine r_isub (pc := 22) dX5_hasRun_22 ?_
        refine r_icmp_gt (pc := 23) 30 dX5_hasRun_23 (by decide) (fun c23 => ?_) (fun c23 => ?_)
        · skip
          refine r_iconst (pc := 30) (v := 0) dX5_hasRun_30 (by decide) ?_
          refine r_ireturn (pc := 31) (ty := .boolean) dX5_hasRun_31 rfl rfl ⟨Nat.zero_le _, Nat.zero_le _⟩ (fun gE hg => ?_)
          refine ⟨?_, by rw [hg.2]; exact hP⟩
          have hT := nI_T (n := l.length) (by omega)
          simp only [fa_lt, fa_le, t0, hT] at *
          first
          | (rw [decide_eq_true (by omega)]; rfl)
          | (rw [decide_eq_false (by omega)]; rfl)
          | (have hT := nI_T (n := l.length) (by omega)
             have hs : (nI l.length - n).toInt = (l.length : Int) - n.toInt := by
                rw [Int32.toInt_sub, hT]
                exact Int.bmod_eq_of_le (by omega) (by omega)
             simp only [hs] at *
             first
             | (rw [decide_eq_true (by omega)]; rfl)
             | (rw [decide_eq_false (by omega)]; rfl))
        · skip
          refine r_iconst (pc := 26) (v := 1) dX5_hasRun_26 (by decide) ?_
          refine r_goto (pc := 27) 31 dX5_hasRun_27 (by decide) ?_
          refine r_ireturn (pc := 31) (ty := .boolean) dX5_hasRun_31 rfl rfl ⟨Nat.zero_le _, Nat.zero_le _⟩ (fun gE hg => ?_)
          refine ⟨?_, by rw [hg.2]; exact hP⟩
          have hT := nI_T (n := l.length) (by omega)
          simp only [fa_lt, fa_le, t0, hT] at *
          first
          | (rw [decide_eq_true (by omega)]; rfl)
          | (rw [decide_eq_false (by omega)]; rfl)
          | (have hT := nI_T (n := l.length) (by omega)
             have hs : (nI l.length - n).toInt = (l.length : Int) - n.toInt := by
                rw [Int32.toInt_sub, hT]
                exact Int.bmod_eq_of_le (by omega) (by omega)
             simp only [hs] at *
             first
             | (rw [decide_eq_true (by omega)]; rfl)
             | (rw [decide_eq_false (by omega)]; rfl))
set_option maxHeartbeats 4000000 in
theorem ct_Row_write {r cap : Nat} {l : List Int32} {i x : Int32} {g : AH} {P' : AH → Prop} (hR : RowAt r cap l g) (hP : ∀ g', RowAt r cap (wrL l i x) g' → Off r 2 g g' → P' g') : CV 1 0 0 mX5_write r [.int i, .int x] g (fun v g' => v = none ∧ P' g') := by
  refine ⟨hR.V, ?_⟩
  refine ct_of (by decide) (fun _ _ => Nat.le_of_ble_eq_true rfl) ?_
  dsimp only [pad, ent]
  obtain ⟨f, hr, hf⟩ := hR.R
  have hn := hR.2.1
  have hc := hR.2.2.1
  refine aw_P (P' := RowR r cap g (nI l.length) f) (fun g' e => by subst e; exact hr) ?_
  have hT := nI_T (n := l.length) (by omega)
  refine r_iload_n (pc := 0) dX5_write_0 rfl ?_
  refine r_if_lt (pc := 1) 28 dX5_write_1 (by decide) (fun c1 => ?_) (fun c1 => ?_)
  · skip
    have k1 := i32_lt0.mp c1
    refine r_return (pc := 28) dX5_write_28 rfl ⟨Nat.zero_le _, Nat.zero_le _⟩ (fun gE hg => ?_)
    first
    | (have hg2 : RowR r cap g (nI (l.set i.toInt.toNat x).length) (upd f i.toInt.toNat x) gE := by rw [List.length_set]; exact hg
       obtain ⟨a, b⟩ := hg2.at (by rw [List.length_set]; exact hn) hc (fun j hj => by
         rw [List.length_set] at hj
         rw [getD_set (by omega)]
         by_cases e : j = i.toInt.toNat
         · rw [if_pos e]; exact if_pos e
         · rw [if_neg e, ← hf j hj]; exact if_neg e)
       unfold wrL at hP
       rw [if_pos (by omega)] at hP
       exact ⟨rfl, hP _ a b⟩)
    | (unfold wrL at hP
       rw [if_neg (by omega)] at hP
       obtain ⟨a, b⟩ := hg.at hn hc hf
       exact ⟨rfl, hP _ a b⟩)
    | (unfold wrL at hP
       rw [if_pos (by omega), List.set_eq_of_length_le (by omega)] at hP
       obtain ⟨a, b⟩ := hg.at hn hc hf
       exact ⟨rfl, hP _ a b⟩)
  · skip
    have k1 := ge0 c1
    refine r_iload_n (pc := 4) dX5_write_4 rfl ?_
    refine r_aload_n (pc := 5) dX5_write_5 rfl ?_
    refine r_getf (pc := 6) (k := 1) dX5_write_6 hX5 eX5 (by decide) fX5_7 (fun _ q => q.o) rfl ?_
    refine r_icmp_ge (pc := 9) 28 dX5_write_9 (by decide) (fun c9 => ?_) (fun c9 => ?_)
    · skip
      have k9 := le_nI (by omega) c9
      refine r_return (pc := 28) dX5_write_28 rfl ⟨Nat.zero_le _, Nat.zero_le _⟩ (fun gE hg => ?_)
      first
      | (have hg2 : RowR r cap g (nI (l.set i.toInt.toNat x).length) (upd f i.toInt.toNat x) gE := by rw [List.length_set]; exact hg
         obtain ⟨a, b⟩ := hg2.at (by rw [List.length_set]; exact hn) hc (fun j hj => by
           rw [List.length_set] at hj
           rw [getD_set (by omega)]
           by_cases e : j = i.toInt.toNat
           · rw [if_pos e]; exact if_pos e
           · rw [if_neg e, ← hf j hj]; exact if_neg e)
         unfold wrL at hP
         rw [if_pos (by omega)] at hP
         exact ⟨rfl, hP _ a b⟩)
      | (unfold wrL at hP
         rw [if_neg (by omega)] at hP
         obtain ⟨a, b⟩ := hg.at hn hc hf
         exact ⟨rfl, hP _ a b⟩)
      | (unfold wrL at hP
         rw [if_pos (by omega), List.set_eq_of_length_le (by omega)] at hP
         obtain ⟨a, b⟩ := hg.at hn hc hf
         exact ⟨rfl, hP _ a b⟩)
    · skip
      have k9 := lt_nI (by omega) c9
      refine r_iload_n (pc := 12) dX5_write_12 rfl ?_
      refine r_aload_n (pc := 13) dX5_write_13 rfl ?_
      refine r_getf (pc := 14) (k := 0) dX5_write_14 hX5 eX5 (by decide) fX5_19 (fun _ q => q.o) rfl ?_
      refine r_alen (pc := 17) (v := nI cap) dX5_write_17 (fun _ q => q.a) rfl ?_
      refine r_icmp_ge (pc := 18) 28 dX5_write_18 (by decide) (fun c18 => ?_) (fun c18 => ?_)
      · skip
        have k18 := le_nI hc c18
        refine r_return (pc := 28) dX5_write_28 rfl ⟨Nat.zero_le _, Nat.zero_le _⟩ (fun gE hg => ?_)
        first
        | (have hg2 : RowR r cap g (nI (l.set i.toInt.toNat x).length) (upd f i.toInt.toNat x) gE := by rw [List.length_set]; exact hg
           obtain ⟨a, b⟩ := hg2.at (by rw [List.length_set]; exact hn) hc (fun j hj => by
             rw [List.length_set] at hj
             rw [getD_set (by omega)]
             by_cases e : j = i.toInt.toNat
             · rw [if_pos e]; exact if_pos e
             · rw [if_neg e, ← hf j hj]; exact if_neg e)
           unfold wrL at hP
           rw [if_pos (by omega)] at hP
           exact ⟨rfl, hP _ a b⟩)
        | (unfold wrL at hP
           rw [if_neg (by omega)] at hP
           obtain ⟨a, b⟩ := hg.at hn hc hf
           exact ⟨rfl, hP _ a b⟩)
        | (unfold wrL at hP
           rw [if_pos (by omega), List.set_eq_of_length_le (by omega)] at hP
           obtain ⟨a, b⟩ := hg.at hn hc hf
           exact ⟨rfl, hP _ a b⟩)
      · skip
        have k18 := lt_nI hc c18
        refine r_aload_n (pc := 21) dX5_write_21 rfl ?_
        refine r_getf (pc := 22) (k := 0) dX5_write_22 hX5 eX5 (by decide) fX5_19 (fun _ q => q.o) rfl ?_
        refine r_iload_n (pc := 25) dX5_write_25 rfl ?_
        refine r_iload_n (pc := 26) dX5_write_26 rfl ?_
        refine r_iast (pc := 27) (j := i.toInt.toNat) (P' := RowR r cap g (nI l.length) (upd f i.toInt.toNat x)) dX5_write_27 (fun _ q => q.a) (ix_hi c1) (by omega) (fun _ q => q.putA) ?_
        refine r_return (pc := 28) dX5_write_28 rfl ⟨Nat.zero_le _, Nat.zero_le _⟩ (fun gE hg => ?_)
        first
        | (have hg2 : RowR r cap g (nI (l.set i.toInt.toNat x).length) (upd f i.toInt.toNat x) gE := by rw [List.length_set]; exact hg
           obtain ⟨a, b⟩ := hg2.at (by rw [List.length_set]; exact hn) hc (fun j hj => by
             rw [List.length_set] at hj
             rw [getD_set (by omega)]
             by_cases e : j = i.toInt.toNat
             · rw [if_pos e]; exact if_pos e
             · rw [if_neg e, ← hf j hj]; exact if_neg e)
           unfold wrL at hP
           rw [if_pos (by omega)] at hP
           exact ⟨rfl, hP _ a b⟩)
        | (unfold wrL at hP
           rw [if_neg (by omega)] at hP
           obtain ⟨a, b⟩ := hg.at hn hc hf
           exact ⟨rfl, hP _ a b⟩)
        | (unfold wrL at hP
           rw [if_pos (by omega), List.set_eq_of_length_le (by omega)] at hP
           obtain ⟨a, b⟩ := hg.at hn hc hf
           exact ⟨rfl, hP _ a b⟩)
set_option maxHeartbeats 4000000 in
theorem ct_Row_clear {r cap : Nat} {l : List Int32} {g : AH} {P' : AH → Prop} (hR : RowAt r cap l g) (hP : ∀ g', RowAt r cap [] g' → Off r 2 g g' → P' g') : CV 1 0 0 mX5_clear r [] g (fun v g' => v = none ∧ P' g') := by
  refine ⟨hR.V, ?_⟩
  refine ct_of (by decide) (fun _ _ => Nat.le_of_ble_eq_true rfl) ?_
  dsimp only [pad, ent]
  obtain ⟨f, hr, hf⟩ := hR.R
  have hn := hR.2.1
  have hc := hR.2.2.1
  refine aw_P (P' := RowR r cap g (nI l.length) f) (fun g' e => by subst e; exact hr) ?_
  refine r_aload_n (pc := 0) dX5_clear_0 rfl ?_
  refine r_iconst (pc := 1) (v := 0) dX5_clear_1 (by decide) ?_
  refine r_putf (pc := 2) (k := 1) (P' := RowR r cap g (nI ([] : List Int32).length) f) tyX5 dX5_clear_2 hX5 tyX5_ok nmX5 eX5 (by decide) fX5_7 rfl rfl (fun _ _ => rfl) (fun _ _ => rfl) (Nat.le_of_ble_eq_true rfl) (fun _ q => q.o) (fun _ q => q.putN) ?_
  refine r_return (pc := 5) dX5_clear_5 rfl ⟨Nat.zero_le _, Nat.zero_le _⟩ (fun gE hg => ?_)
  obtain ⟨a, b⟩ := hg.at (Nat.zero_le _) hc (fun j hj => absurd hj (Nat.not_lt_zero j))
  exact ⟨rfl, hP _ a b⟩
def addL (cap : Nat) (l : List Int32) (x : Int32) : List Int32 := if l.length < cap then l ++ [x] else l
theorem getD_app {l : List Int32} {x : Int32} {j : Nat} (h : j < l.length + 1) : (l ++ [x]).getD j 0 = if j = l.length then x else l.getD j 0 := by
  rw [List.getD_eq_getElem?_getD, List.getD_eq_getElem?_getD]
  by_cases e : j = l.length
  · subst e; simp
  · rw [if_neg e, List.getElem?_append_left (by omega)]
set_option maxHeartbeats 4000000 in
theorem ct_Row_add {r cap : Nat} {l : List Int32} {x : Int32} {g : AH} {P' : AH → Prop} (hR : RowAt r cap l g) (hP : ∀ g', RowAt r cap (addL cap l x) g' → Off r 2 g g' → P' g') : CV 1 0 0 mX5_add r [.int x] g (fun v g' => v = some (.int (b2i (decide (l.length < cap)))) ∧ P' g') := by
  refine ⟨hR.V, ?_⟩
  refine ct_of (by decide) (fun _ _ => Nat.le_of_ble_eq_true rfl) ?_
  dsimp only [pad, ent]
  obtain ⟨f, hr, hf⟩ := hR.R
  have hn := hR.2.1
  have hc := hR.2.2.1
  have hT := nI_T (n := l.length) (by omega)
  have hT2 := nI_T (n := cap) hc
  refine aw_P (P' := RowR r cap g (nI l.length) f) (fun g' e => by subst e; exact hr) ?_
  refine r_aload_n (pc := 0) dX5_add_0 rfl ?_
  refine r_getf (pc := 1) (k := 1) dX5_add_1 hX5 eX5 (by decide) fX5_7 (fun _ q => q.o) rfl ?_
  refine r_if_lt (pc := 4) 19 dX5_add_4 (by decide) (fun c4 => ?_) (fun c4 => ?_)
  · skip
    exact absurd c4 (fun q => by have := i32_lt0.mp q; omega)
  · skip
    refine r_aload_n (pc := 7) dX5_add_7 rfl ?_
    refine r_getf (pc := 8) (k := 1) dX5_add_8 hX5 eX5 (by decide) fX5_7 (fun _ q => q.o) rfl ?_
    refine r_aload_n (pc := 11) dX5_add_11 rfl ?_
    refine r_getf (pc := 12) (k := 0) dX5_add_12 hX5 eX5 (by decide) fX5_19 (fun _ q => q.o) rfl ?_
    refine r_alen (pc := 15) (v := nI cap) dX5_add_15 (fun _ q => q.a) rfl ?_
    refine r_icmp_lt (pc := 16) 21 dX5_add_16 (by decide) (fun c16 => ?_) (fun c16 => ?_)
    · skip
      have k16 : l.length < cap := by have := fa_lt.mp c16; omega
      refine r_aload_n (pc := 21) dX5_add_21 rfl ?_
      refine r_getf (pc := 22) (k := 0) dX5_add_22 hX5 eX5 (by decide) fX5_19 (fun _ q => q.o) rfl ?_
      refine r_aload_n (pc := 25) dX5_add_25 rfl ?_
      refine r_getf (pc := 26) (k := 1) dX5_add_26 hX5 eX5 (by decide) fX5_7 (fun _ q => q.o) rfl ?_
      refine r_iload_n (pc := 29) dX5_add_29 rfl ?_
      refine r_iast (pc := 30) (j := l.length) (P' := RowR r cap g (nI l.length) (upd f l.length x)) dX5_add_30 (fun _ q => q.a) hT k16 (fun _ q => q.putA) ?_
      refine r_aload_n (pc := 31) dX5_add_31 rfl ?_
      refine r_dup (pc := 32) dX5_add_32 rfl ?_
      refine r_getf (pc := 33) (k := 1) dX5_add_33 hX5 eX5 (by decide) fX5_7 (fun _ q => q.o) rfl ?_
      refine r_iconst (pc := 36) (v := 1) dX5_add_36 (by decide) ?_
      refine r_iadd (pc := 37) dX5_add_37 ?_
      refine r_putf (pc := 38) (k := 1) (P' := RowR r cap g (nI l.length + 1) (upd f l.length x)) tyX5 dX5_add_38 hX5 tyX5_ok nmX5 eX5 (by decide) fX5_7 rfl rfl (fun _ _ => rfl) (fun _ _ => rfl) (Nat.le_of_ble_eq_true rfl) (fun _ q => q.o) (fun _ q => q.putN) ?_
      refine r_iconst (pc := 41) (v := 1) dX5_add_41 (by decide) ?_
      refine r_ireturn (pc := 42) (ty := .boolean) dX5_add_42 rfl rfl ⟨Nat.zero_le _, Nat.zero_le _⟩ (fun gE hg => ?_)
      rw [decide_eq_true k16]
      unfold addL at hP
      rw [if_pos k16] at hP
      have hg2 : RowR r cap g (nI (l ++ [x]).length) (upd f l.length x) gE := by rw [List.length_append, List.length_singleton, nI_succ]; exact hg
      obtain ⟨a, b⟩ := hg2.at (by rw [List.length_append, List.length_singleton]; exact k16) hc (fun j hj => by
        rw [List.length_append, List.length_singleton] at hj
        rw [getD_app hj]
        by_cases e : j = l.length
        · rw [if_pos e]; exact if_pos e
        · rw [if_neg e, ← hf j (by omega)]; exact if_neg e)
      exact ⟨rfl, hP _ a b⟩
    · skip
      have k16 : ¬ l.length < cap := fun q => c16 (fa_lt.mpr (by omega))
      refine r_iconst (pc := 19) (v := 0) dX5_add_19 (by decide) ?_
      refine r_ireturn (pc := 20) (ty := .boolean) dX5_add_20 rfl rfl ⟨Nat.zero_le _, Nat.zero_le _⟩ (fun gE hg => ?_)
      rw [decide_eq_false k16]
      unfold addL at hP
      rw [if_neg k16] at hP
      obtain ⟨a, b⟩ := hg.at hn hc hf
      exact ⟨rfl, hP _ a b⟩
/-- how many numbers a row of cap keeps of n -/
def clampI (n : Int32) (cap : Nat) : Nat := min n.toInt.toNat cap
theorem clamp_eq {n : Int32} {cap : Nat} (hc : cap ≤ 4000) : (if (0 : Int32) < (if nI cap < n then nI cap else n) then (if nI cap < n then nI cap else n) else 0) = nI (clampI n cap) := by
  have hT := nI_T (n := cap) hc
  have hT2 := nI_T (n := clampI n cap) (by unfold clampI; omega)
  apply Int32.toInt_inj.mp
  rw [hT2]
  unfold clampI
  by_cases a : nI cap < n
  · rw [if_pos a]
    have a2 := fa_lt.mp a
    by_cases b : (0 : Int32) < nI cap
    · rw [if_pos b]; omega
    · rw [if_neg b]; have : ¬ (0 : Int) < (nI cap).toInt := fun q => b (fa_lt.mpr q); rw [t0]; omega
  · rw [if_neg a]
    have a2 : ¬ (nI cap).toInt < n.toInt := fun q => a (fa_lt.mpr q)
    by_cases b : (0 : Int32) < n
    · rw [if_pos b]; have := fa_lt.mp b; rw [t0] at this; omega
    · rw [if_neg b]; have : ¬ (0 : Int) < n.toInt := fun q => b (fa_lt.mpr q); rw [t0]; omega
theorem getD_rep {n j : Nat} {x : Int32} (h : j < n) : (List.replicate n x).getD j 0 = x := by
  rw [List.getD_eq_getElem?_getD, List.getElem?_replicate, if_pos h]; rfl
theorem nI_s (k : Nat) : nI k + 1 = nI (k + 1) := (nI_succ k).symm
set_option maxHeartbeats 4000000 in
theorem ct_Row_fill {r cap : Nat} {l : List Int32} {n x : Int32} {g : AH} {P' : AH → Prop} (hR : RowAt r cap l g) (hP : ∀ g', RowAt r cap (List.replicate (clampI n cap) x) g' → Off r 2 g g' → P' g') : CV 2 0 0 mX5_fill r [.int n, .int x] g (fun v g' => v = none ∧ P' g') := by
  refine ⟨hR.V, ?_⟩
  refine ct_of (by decide) (fun _ _ => Nat.le_of_ble_eq_true rfl) ?_
  dsimp only [pad, ent]
  obtain ⟨f, hr, hf⟩ := hR.R
  have hn := hR.2.1
  have hc := hR.2.2.1
  have hT2 := nI_T (n := cap) hc
  obtain ⟨N, hN⟩ : ∃ N, N = clampI n cap := ⟨_, rfl⟩
  have hNc : N ≤ cap := by rw [hN]; unfold clampI; omega
  have hTN := nI_T (n := N) (by omega)
  refine aw_P (P' := RowR r cap g (nI l.length) f) (fun g' e => by subst e; exact hr) ?_
  have L : ∀ k, k ≤ N → AW (fun _ => True) (rmd 2 0 0) mX5_fill 0 0 19 [some (.ref r), some (.int n), some (.int x), some (.int (nI k))] [] (fun g' => ∃ f', RowR r cap g (nI N) f' g' ∧ ∀ j, j < k → f' j = x) (fun v g' => v = none ∧ P' g') := by
    refine up_loop ?_ ?_
    · refine aw_ex fun f' => ?_
      refine r_iload_n (pc := 19) dX5_fill_19 rfl ?_
      refine r_aload_n (pc := 20) dX5_fill_20 rfl ?_
      refine r_getf (pc := 21) (k := 1) dX5_fill_21 hX5 eX5 (by decide) fX5_7 (fun _ q => q.1.o) rfl ?_
      refine r_icmp_ge (pc := 24) 49 dX5_fill_24 (by decide) (fun c24 => ?_) (fun c24 => ?_)
      · skip
        refine r_return (pc := 49) dX5_fill_49 rfl ⟨Nat.zero_le _, Nat.zero_le _⟩ (fun gE hg => ?_)
        have hg2 : RowR r cap g (nI (List.replicate N x).length) f' gE := by rw [List.length_replicate]; exact hg.1
        obtain ⟨a, b⟩ := hg2.at (by rw [List.length_replicate]; exact hNc) hc (fun j hj => by
          rw [List.length_replicate] at hj
          rw [hg.2 j hj, getD_rep hj])
        rw [hN] at a
        exact ⟨rfl, hP _ a b⟩
      · skip
        exact absurd (fa_le.mpr (Int.le_refl _)) c24
    · intro k hk ih
      have hTk := nI_T (n := k) (by omega)
      refine aw_ex fun f' => ?_
      refine r_iload_n (pc := 19) dX5_fill_19 rfl ?_
      refine r_aload_n (pc := 20) dX5_fill_20 rfl ?_
      refine r_getf (pc := 21) (k := 1) dX5_fill_21 hX5 eX5 (by decide) fX5_7 (fun _ q => q.1.o) rfl ?_
      refine r_icmp_ge (pc := 24) 49 dX5_fill_24 (by decide) (fun c24 => ?_) (fun c24 => ?_)
      · skip
        exact absurd c24 (fun q => by have := fa_le.mp q; omega)
      · skip
        refine r_iload_n (pc := 27) dX5_fill_27 rfl ?_
        refine r_aload_n (pc := 28) dX5_fill_28 rfl ?_
        refine r_getf (pc := 29) (k := 0) dX5_fill_29 hX5 eX5 (by decide) fX5_19 (fun _ q => q.1.o) rfl ?_
        refine r_alen (pc := 32) (v := nI cap) dX5_fill_32 (fun _ q => q.1.a) rfl ?_
        refine r_icmp_ge (pc := 33) 49 dX5_fill_33 (by decide) (fun c33 => ?_) (fun c33 => ?_)
        · skip
          exact absurd c33 (fun q => by have := fa_le.mp q; omega)
        · skip
          refine r_aload_n (pc := 36) dX5_fill_36 rfl ?_
          refine r_getf (pc := 37) (k := 0) dX5_fill_37 hX5 eX5 (by decide) fX5_19 (fun _ q => q.1.o) rfl ?_
          refine r_iload_n (pc := 40) dX5_fill_40 rfl ?_
          refine r_iload_n (pc := 41) dX5_fill_41 rfl ?_
          refine r_iast (pc := 42) (j := k) (P' := fun g' => ∃ f', RowR r cap g (nI N) f' g' ∧ ∀ j, j < k + 1 → f' j = x) dX5_fill_42 (fun _ q => q.1.a) hTk (by omega) (fun _ q => ⟨_, q.1.putA, fun j hj => by
                by_cases e : j = k
                · exact if_pos e
                · exact (if_neg e).trans (q.2 j (by omega))⟩) ?_
          skip
          refine r_iinc1 (pc := 43) dX5_fill_43 rfl (Nat.le_of_ble_eq_true rfl) rfl ?_
          dsimp only [lset]
          refine r_goto (pc := 46) 19 dX5_fill_46 (by decide) ?_
          rw [nI_s]
          exact ih
  refine r_aload_n (pc := 0) dX5_fill_0 rfl ?_
  refine r_iconst (pc := 1) (v := 0) dX5_fill_1 (by decide) ?_
  refine r_iload_n (pc := 2) dX5_fill_2 rfl ?_
  refine r_aload_n (pc := 3) dX5_fill_3 rfl ?_
  refine r_getf (pc := 4) (k := 0) dX5_fill_4 hX5 eX5 (by decide) fX5_19 (fun _ q => q.o) rfl ?_
  refine r_alen (pc := 7) (v := nI cap) dX5_fill_7 (fun _ q => q.a) rfl ?_
  refine r_mmin (pc := 8) dX5_fill_8 nX5_23 ma_s_min z_math ma_c_min ⟨(Nat.le_of_ble_eq_true rfl), (Nat.le_of_ble_eq_true rfl)⟩ (Nat.le_of_ble_eq_true rfl) ⟨Nat.zero_le _, Nat.zero_le _⟩ rfl ?_
  refine r_mmax (pc := 11) dX5_fill_11 nX5_13 ma_s_max z_math ma_c_max ⟨(Nat.le_of_ble_eq_true rfl), (Nat.le_of_ble_eq_true rfl)⟩ (Nat.le_of_ble_eq_true rfl) ⟨Nat.zero_le _, Nat.zero_le _⟩ rfl ?_
  refine r_putf (pc := 14) (k := 1) (P' := RowR r cap g (nI N) f) tyX5 dX5_fill_14 hX5 tyX5_ok nmX5 eX5 (by decide) fX5_7 rfl rfl (fun _ _ => rfl) (fun _ _ => rfl) (Nat.le_of_ble_eq_true rfl) (fun _ q => q.o) (fun _ q => by rw [clamp_eq hc, ← hN]; exact q.putN) ?_
  refine r_iconst (pc := 17) (v := 0) dX5_fill_17 (by decide) ?_
  refine r_istore_n (pc := 18) dX5_fill_18 rfl (Nat.le_of_ble_eq_true rfl) rfl ?_
  dsimp only [lset]
  exact aw_P (fun g' q => ⟨f, q, fun j hj => absurd hj (Nat.not_lt_zero j)⟩) (L 0 (Nat.zero_le _))
/-- the first n numbers of a list, as a row of at most cap takes them -/
theorem getD_take {l : List Int32} {n j : Nat} (h : j < n) : (l.take n).getD j 0 = l.getD j 0 := by
  rw [List.getD_eq_getElem?_getD, List.getD_eq_getElem?_getD, List.getElem?_take, if_pos h]
theorem min_eq {a b : Nat} (ha : a ≤ 4000) (hb : b ≤ 4000) : (if nI b < nI a then nI b else nI a) = nI (min a b) := by
  by_cases h : nI b < nI a
  · rw [if_pos h]; have := fa_lt.mp h; rw [nI_T ha, nI_T hb] at this; rw [show min a b = b by omega]
  · rw [if_neg h]; have : ¬ (nI b).toInt < (nI a).toInt := fun q => h (fa_lt.mpr q); rw [nI_T ha, nI_T hb] at this; rw [show min a b = a by omega]
theorem ix_nI {k n : Nat} (h : k < n) (hn : n ≤ 4000) : (nI k).toInt = (k : Int) := nI_T (by omega)
theorem atL_nI {l : List Int32} {k : Nat} (h : k ≤ 4000) : atL l (nI k) = l.getD k 0 := by
  unfold atL
  rw [nI_T h, if_pos (by omega)]; rfl
set_option maxHeartbeats 4000000 in
theorem ct_Row_take {r cap r2 cap2 : Nat} {l l2 : List Int32} {g : AH} {P' : AH → Prop} (hR : RowAt r cap l g) (hR2 : RowAt r2 cap2 l2 g) (hd : r + 2 ≤ r2 ∨ r2 + 2 ≤ r) (hP : ∀ g', RowAt r cap (l2.take cap) g' → Off r 2 g g' → P' g') : CV 2 0 0 mX5_take r [.ref r2] g (fun v g' => v = none ∧ P' g') := by
  refine ⟨hR.V, ?_⟩
  refine ct_of (by decide) (fun _ _ => Nat.le_of_ble_eq_true rfl) ?_
  dsimp only [pad, ent]
  obtain ⟨f, hr, hf⟩ := hR.R
  have hn := hR.2.1
  have hc := hR.2.2.1
  have hn2 := hR2.2.1
  have hc2 := hR2.2.2.1
  have hT2 := nI_T (n := cap) hc
  obtain ⟨f2, hr2, hf2⟩ := hR2.R
  obtain ⟨N, hN⟩ : ∃ N, N = min l2.length cap := ⟨_, rfl⟩
  have hTN := nI_T (n := N) (by omega)
  have k2 : ∀ {n : Int32} {f : Nat → Int32} {g' : AH}, RowR r cap g n f g' → RowAt r2 cap2 l2 g' := fun q => hR2.off (lo := r) (w := 2) ⟨q.1, fun j hj => q.2.2.2.2 j (by omega) (by omega)⟩ (by omega)
  have k3 : ∀ {n : Int32} {f : Nat → Int32} {g' : AH}, RowR r cap g n f g' → r2 < g'.1 ∧ g'.2 r2 = .inr (.inr (4, [.ref (r2 + 1), .int (nI l2.length)])) := fun q => ⟨by have := (k2 q).1; omega, (q.2.2.2.2 r2 (by omega) (by omega)).trans hr2.2.2.1⟩
  refine aw_P (P' := RowR r cap g (nI l.length) f) (fun g' e => by subst e; exact hr) ?_
  have L : ∀ k, k ≤ N → AW (fun _ => True) (rmd 2 0 0) mX5_take 0 0 18 [some (.ref r), some (.ref r2), some (.int (nI k))] [] (fun g' => ∃ f', RowR r cap g (nI N) f' g' ∧ ∀ j, j < k → f' j = l2.getD j 0) (fun v g' => v = none ∧ P' g') := by
    refine up_loop ?_ ?_
    · refine aw_ex fun f' => ?_
      refine r_iload_n (pc := 18) dX5_take_18 rfl ?_
      refine r_aload_n (pc := 19) dX5_take_19 rfl ?_
      refine r_getf (pc := 20) (k := 1) dX5_take_20 hX5 eX5 (by decide) fX5_7 (fun _ q => q.1.o) rfl ?_
      refine r_icmp_ge (pc := 23) 52 dX5_take_23 (by decide) (fun c23 => ?_) (fun c23 => ?_)
      · skip
        refine r_return (pc := 52) dX5_take_52 rfl ⟨Nat.zero_le _, Nat.zero_le _⟩ (fun gE hg => ?_)
        have hg2 : RowR r cap g (nI (l2.take cap).length) f' gE := by rw [List.length_take, Nat.min_comm, ← hN]; exact hg.1
        obtain ⟨a, b⟩ := hg2.at (by rw [List.length_take]; omega) hc (fun j hj => by
          rw [List.length_take] at hj
          rw [hg.2 j (by omega), getD_take (by omega)])
        exact ⟨rfl, hP _ a b⟩
      · skip
        exact absurd (fa_le.mpr (Int.le_refl _)) c23
    · intro k hk ih
      have hTk := nI_T (n := k) (by omega)
      refine aw_ex fun f' => ?_
      refine r_iload_n (pc := 18) dX5_take_18 rfl ?_
      refine r_aload_n (pc := 19) dX5_take_19 rfl ?_
      refine r_getf (pc := 20) (k := 1) dX5_take_20 hX5 eX5 (by decide) fX5_7 (fun _ q => q.1.o) rfl ?_
      refine r_icmp_ge (pc := 23) 52 dX5_take_23 (by decide) (fun c23 => ?_) (fun c23 => ?_)
      · skip
        exact absurd c23 (fun q => by have := fa_le.mp q; omega)
      · skip
        refine r_iload_n (pc := 26) dX5_take_26 rfl ?_
        refine r_aload_n (pc := 27) dX5_take_27 rfl ?_
        refine r_getf (pc := 28) (k := 0) dX5_take_28 hX5 eX5 (by decide) fX5_19 (fun _ q => q.1.o) rfl ?_
        refine r_alen (pc := 31) (v := nI cap) dX5_take_31 (fun _ q => q.1.a) rfl ?_
        refine r_icmp_ge (pc := 32) 52 dX5_take_32 (by decide) (fun c32 => ?_) (fun c32 => ?_)
        · skip
          exact absurd c32 (fun q => by have := fa_le.mp q; omega)
        · skip
          refine r_aload_n (pc := 35) dX5_take_35 rfl ?_
          refine r_getf (pc := 36) (k := 0) dX5_take_36 hX5 eX5 (by decide) fX5_19 (fun _ q => q.1.o) rfl ?_
          refine r_iload_n (pc := 39) dX5_take_39 rfl ?_
          refine r_aload_n (pc := 40) dX5_take_40 rfl ?_
          refine r_iload_n (pc := 41) dX5_take_41 rfl ?_
          refine r_Vi (pc := 42) (μ' := mX5_at) dX5_take_42 nX5_26 iX5_at vX5_at kX5_at rfl rfl (rr (by decide) rfl) rfl ⟨Nat.zero_le _, Nat.zero_le _⟩ (fun g' q => ct_Row_at (k2 q.1) q) ?_
          refine r_iast (pc := 45) (j := k) (P' := fun g' => ∃ f', RowR r cap g (nI N) f' g' ∧ ∀ j, j < k + 1 → f' j = l2.getD j 0) dX5_take_45 (fun _ q => q.1.a) hTk (by omega) (fun _ q => ⟨_, q.1.putA, fun j hj => by
                by_cases e : j = k
                · rw [e]; exact (if_pos rfl).trans (atL_nI (by omega))
                · exact (if_neg e).trans (q.2 j (by omega))⟩) ?_
          refine r_iinc1 (pc := 46) dX5_take_46 rfl (Nat.le_of_ble_eq_true rfl) rfl ?_
          dsimp only [lset]
          refine r_goto (pc := 49) 18 dX5_take_49 (by decide) ?_
          rw [nI_s]
          exact ih
  refine r_aload_n (pc := 0) dX5_take_0 rfl ?_
  refine r_aload_n (pc := 1) dX5_take_1 rfl ?_
  refine r_getf (pc := 2) (k := 1) dX5_take_2 hX5 eX5 (by decide) fX5_7 (fun _ q => k3 q) rfl ?_
  refine r_aload_n (pc := 5) dX5_take_5 rfl ?_
  refine r_getf (pc := 6) (k := 0) dX5_take_6 hX5 eX5 (by decide) fX5_19 (fun _ q => q.o) rfl ?_
  refine r_alen (pc := 9) (v := nI cap) dX5_take_9 (fun _ q => q.a) rfl ?_
  refine r_mmin (pc := 10) dX5_take_10 nX5_23 ma_s_min z_math ma_c_min ⟨(Nat.le_of_ble_eq_true rfl), (Nat.le_of_ble_eq_true rfl)⟩ (Nat.le_of_ble_eq_true rfl) ⟨Nat.zero_le _, Nat.zero_le _⟩ rfl ?_
  refine r_putf (pc := 13) (k := 1) (P' := RowR r cap g (nI N) f) tyX5 dX5_take_13 hX5 tyX5_ok nmX5 eX5 (by decide) fX5_7 rfl rfl (fun _ _ => rfl) (fun _ _ => rfl) (Nat.le_of_ble_eq_true rfl) (fun _ q => q.o) (fun _ q => by rw [min_eq (by omega) hc, ← hN]; exact q.putN) ?_
  refine r_iconst (pc := 16) (v := 0) dX5_take_16 (by decide) ?_
  refine r_istore_n (pc := 17) dX5_take_17 rfl (Nat.le_of_ble_eq_true rfl) rfl ?_
  dsimp only [lset]
  exact aw_P (fun g' q => ⟨f, q, fun j hj => absurd hj (Nat.not_lt_zero j)⟩) (L 0 (Nat.zero_le _))
/-- a run of n numbers of src, from i on, stands in l from j on -/
def mvL (l src : List Int32) (j i a b : Nat) : List Int32 := (List.range l.length).map fun x => if j + a ≤ x ∧ x < j + b then src.getD (i + (x - j)) 0 else l.getD x 0
theorem mvL_len {l src : List Int32} {j i a b : Nat} : (mvL l src j i a b).length = l.length := by unfold mvL; rw [List.length_map, List.length_range]
theorem mvL_at {l src : List Int32} {j i a b x : Nat} (h : x < l.length) : (mvL l src j i a b).getD x 0 = if j + a ≤ x ∧ x < j + b then src.getD (i + (x - j)) 0 else l.getD x 0 := by
  unfold mvL
  rw [List.getD_eq_getElem?_getD, List.getElem?_map, List.getElem?_range h]; rfl
theorem list_ext {l m : List Int32} (h : l.length = m.length) (h2 : ∀ x, x < l.length → l.getD x 0 = m.getD x 0) : l = m := by
  refine List.ext_getElem h fun x hx hy => ?_
  have := h2 x hx
  rw [getD_in hx, getD_in hy] at this
  exact this
theorem mvL_0 {l src : List Int32} {j i a : Nat} : mvL l src j i a a = l :=
  list_ext mvL_len fun x hx => by rw [mvL_len] at hx; rw [mvL_at hx, if_neg (by omega)]
theorem wrL_nI {l : List Int32} {k : Nat} {x : Int32} (h : k ≤ 4000) : wrL l (nI k) x = l.set k x := by
  unfold wrL
  rw [nI_T h, if_pos (by omega)]; rfl
theorem nI_add' (a b : Nat) : nI a + nI b = nI (a + b) := nI_add a b
theorem mvL_up {l src : List Int32} {j i k : Nat} (h : j + k < l.length) : (mvL l src j i 0 k).set (j + k) (src.getD (i + k) 0) = mvL l src j i 0 (k + 1) := by
  refine list_ext (by rw [List.length_set, mvL_len, mvL_len]) fun x hx => ?_
  rw [List.length_set, mvL_len] at hx
  rw [getD_set (by rw [mvL_len]; exact h), mvL_at hx, mvL_at hx]
  by_cases e : x = j + k
  · subst e; rw [if_pos rfl, if_pos (by omega), show i + (j + k - j) = i + k by omega]
  · rw [if_neg e]
    by_cases e2 : j ≤ x ∧ x < j + k
    · rw [if_pos (by omega), if_pos (by omega)]
    · rw [if_neg (by omega), if_neg (by omega)]
theorem mvL_dn {l src : List Int32} {j i k n : Nat} (h : j + k < l.length) (hk : k < n) : (mvL l src j i (k + 1) n).set (j + k) (src.getD (i + k) 0) = mvL l src j i k n := by
  refine list_ext (by rw [List.length_set, mvL_len, mvL_len]) fun x hx => ?_
  rw [List.length_set, mvL_len] at hx
  rw [getD_set (by rw [mvL_len]; exact h), mvL_at hx, mvL_at hx]
  by_cases e : x = j + k
  · subst e; rw [if_pos rfl, if_pos (by omega), show i + (j + k - j) = i + k by omega]
  · rw [if_neg e]
    by_cases e2 : j + k ≤ x ∧ x < j + n
    · rw [if_pos (by omega), if_pos (by omega)]
    · rw [if_neg (by omega), if_neg (by omega)]
set_option maxHeartbeats 4000000 in
theorem ct_Row_takeRun {r cap fr cap2 j i n : Nat} {l src : List Int32} {g : AH} {P' : AH → Prop} (hR : RowAt r cap l g) (hs : (fr = r ∧ src = l) ∨ ((fr + 2 ≤ r ∨ r + 2 ≤ fr) ∧ RowAt fr cap2 src g)) (hj : j + n ≤ l.length) (hi : i + n ≤ src.length) (hi2 : src.length ≤ 4000) (hP : ∀ g', RowAt r cap (mvL l src j i 0 n) g' → Off r 2 g g' → P' g') : CV 2 0 0 mX5_takeRun r [.int (nI j), .ref fr, .int (nI i), .int (nI n)] g (fun v g' => v = none ∧ P' g') := by
  refine ⟨hR.V, ?_⟩
  refine ct_of (by decide) (fun _ _ => Nat.le_of_ble_eq_true rfl) ?_
  dsimp only [pad, ent]
  have hn := hR.2.1
  have hc := hR.2.2.1
  have hTj := nI_T (n := j) (by omega)
  have hTi := nI_T (n := i) (by omega)
  have hTn := nI_T (n := n) (by omega)
  have hrd : ∀ (a b : Nat) (g' : AH), RowAt r cap (mvL l src j i a b) g' → Off r 2 g g' → ∃ (S : List Int32) (cap' : Nat), RowAt fr cap' S g' ∧ ∀ k, (j ≤ i ∧ a = 0 ∧ b ≤ k ∨ i < j ∧ k < a) → i + k < src.length → S.getD (i + k) 0 = src.getD (i + k) 0 := by
    intro a b g' h1 h2
    rcases hs with ⟨rfl, rfl⟩ | ⟨hd, hS⟩
    · refine ⟨_, _, h1, fun k hk hl => ?_⟩
      rw [mvL_at hl, if_neg (by omega)]
    · exact ⟨src, cap2, hS.off h2 (by omega), fun _ _ _ => rfl⟩
  have A : ∀ k, k ≤ n → j ≤ i → AW (fun _ => True) (rmd 2 0 0) mX5_takeRun 0 0 8 [some (.ref r), some (.int (nI j)), some (.ref fr), some (.int (nI i)), some (.int (nI n)), some (.int (nI k))] [] (fun g' => RowAt r cap (mvL l src j i 0 k) g' ∧ Off r 2 g g') (fun v g' => v = none ∧ P' g') := by
    intro k hk hij
    revert k
    refine up_loop ?_ ?_
    · skip
      refine r_iload (pc := 8) dX5_takeRun_8 rfl ?_
      refine r_iload (pc := 10) dX5_takeRun_10 rfl ?_
      refine r_icmp_ge (pc := 12) 37 dX5_takeRun_12 (by decide) (fun c12 => ?_) (fun c12 => ?_)
      · skip
        refine r_goto (pc := 37) 73 dX5_takeRun_37 (by decide) ?_
        refine r_return (pc := 73) dX5_takeRun_73 rfl ⟨Nat.zero_le _, Nat.zero_le _⟩ (fun gE hg => ?_)
        exact ⟨rfl, hP _ hg.1 hg.2⟩
      · skip
        exact absurd (fa_le.mpr (Int.le_refl _)) c12
    · intro k hk ih
      have hTk := nI_T (n := k) (by omega)
      refine aw_at fun gk hgk => ?_
      obtain ⟨S, cap', hS, hSv⟩ := hrd _ _ gk hgk.1 hgk.2
      have hSv2 := hSv k (Or.inl ⟨hij, rfl, Nat.le_refl _⟩) (by omega)
      refine r_iload (pc := 8) dX5_takeRun_8 rfl ?_
      refine r_iload (pc := 10) dX5_takeRun_10 rfl ?_
      refine r_icmp_ge (pc := 12) 37 dX5_takeRun_12 (by decide) (fun c12 => ?_) (fun c12 => ?_)
      · skip
        exact absurd c12 (fun q => by have := fa_le.mp q; omega)
      · skip
        refine r_aload_n (pc := 15) dX5_takeRun_15 rfl ?_
        refine r_iload_n (pc := 16) dX5_takeRun_16 rfl ?_
        refine r_iload (pc := 17) dX5_takeRun_17 rfl ?_
        refine r_iadd (pc := 19) dX5_takeRun_19 ?_
        refine r_aload_n (pc := 20) dX5_takeRun_20 rfl ?_
        refine r_iload_n (pc := 21) dX5_takeRun_21 rfl ?_
        refine r_iload (pc := 22) dX5_takeRun_22 rfl ?_
        refine r_iadd (pc := 24) dX5_takeRun_24 ?_
        refine r_Vi (pc := 25) (μ' := mX5_at) dX5_takeRun_25 nX5_26 iX5_at vX5_at kX5_at rfl rfl (rr (by decide) rfl) rfl ⟨Nat.zero_le _, Nat.zero_le _⟩ (fun g' q => ct_Row_at (cap := cap') (l := S) (P' := fun g' => g' = gk) (by rw [q]; exact hS) q) ?_
        rw [nI_add', nI_add', atL_nI (by omega), hSv2]
        refine r_Vv (pc := 28) (μ' := mX5_write) dX5_takeRun_28 nX5_30 iX5_write vX5_write kX5_write rfl rfl (rr (by decide) rfl) rfl ⟨Nat.zero_le _, Nat.zero_le _⟩ (fun g' q => ct_Row_write (cap := cap) (l := mvL l src j i 0 k) (P' := fun g' => RowAt r cap (mvL l src j i 0 (k + 1)) g' ∧ Off r 2 g g') (by rw [q]; exact hgk.1) (fun g2 a b => ⟨by rw [wrL_nI (by omega), mvL_up (by omega)] at a; exact a, hgk.2.tr (by rw [q] at b; exact b)⟩)) ?_
        refine r_iinc1 (pc := 31) dX5_takeRun_31 rfl (Nat.le_of_ble_eq_true rfl) rfl ?_
        dsimp only [lset]
        refine r_goto (pc := 34) 8 dX5_takeRun_34 (by decide) ?_
        rw [nI_s]
        exact ih
  have B : ∀ k, k ≤ n → i < j → AW (fun _ => True) (rmd 2 0 0) mX5_takeRun 0 0 46 [some (.ref r), some (.int (nI j)), some (.ref fr), some (.int (nI i)), some (.int (nI n)), some (.int (nI k - 1))] [] (fun g' => RowAt r cap (mvL l src j i k n) g' ∧ Off r 2 g g') (fun v g' => v = none ∧ P' g') := by
    intro k hk hij
    induction k with
    | zero =>
      refine r_iload (pc := 46) dX5_takeRun_46 rfl ?_
      refine r_if_lt (pc := 48) 73 dX5_takeRun_48 (by decide) (fun c48 => ?_) (fun c48 => ?_)
      · skip
        refine r_return (pc := 73) dX5_takeRun_73 rfl ⟨Nat.zero_le _, Nat.zero_le _⟩ (fun gE hg => ?_)
        exact ⟨rfl, hP _ hg.1 hg.2⟩
      · skip
        exact absurd (show nI 0 - 1 < 0 by decide) c48
    | succ k ih =>
      have hTk := nI_T (n := k) (by omega)
      rw [show nI (k + 1) - 1 = nI k from nI_pred k]
      refine aw_at fun gk hgk => ?_
      obtain ⟨S, cap', hS, hSv⟩ := hrd _ _ gk hgk.1 hgk.2
      have hSv2 := hSv k (Or.inr ⟨hij, Nat.lt_succ_self k⟩) (by omega)
      refine r_iload (pc := 46) dX5_takeRun_46 rfl ?_
      refine r_if_lt (pc := 48) 73 dX5_takeRun_48 (by decide) (fun c48 => ?_) (fun c48 => ?_)
      · skip
        exact absurd c48 (fun q => by have := i32_lt0.mp q; omega)
      · skip
        refine r_aload_n (pc := 51) dX5_takeRun_51 rfl ?_
        refine r_iload_n (pc := 52) dX5_takeRun_52 rfl ?_
        refine r_iload (pc := 53) dX5_takeRun_53 rfl ?_
        refine r_iadd (pc := 55) dX5_takeRun_55 ?_
        refine r_aload_n (pc := 56) dX5_takeRun_56 rfl ?_
        refine r_iload_n (pc := 57) dX5_takeRun_57 rfl ?_
        refine r_iload (pc := 58) dX5_takeRun_58 rfl ?_
        refine r_iadd (pc := 60) dX5_takeRun_60 ?_
        refine r_Vi (pc := 61) (μ' := mX5_at) dX5_takeRun_61 nX5_26 iX5_at vX5_at kX5_at rfl rfl (rr (by decide) rfl) rfl ⟨Nat.zero_le _, Nat.zero_le _⟩ (fun g' q => ct_Row_at (cap := cap') (l := S) (P' := fun g' => g' = gk) (by rw [q]; exact hS) q) ?_
        rw [nI_add', nI_add', atL_nI (by omega), hSv2]
        refine r_Vv (pc := 64) (μ' := mX5_write) dX5_takeRun_64 nX5_30 iX5_write vX5_write kX5_write rfl rfl (rr (by decide) rfl) rfl ⟨Nat.zero_le _, Nat.zero_le _⟩ (fun g' q => ct_Row_write (cap := cap) (l := mvL l src j i (k + 1) n) (P' := fun g' => RowAt r cap (mvL l src j i k n) g' ∧ Off r 2 g g') (by rw [q]; exact hgk.1) (fun g2 a b => ⟨by rw [wrL_nI (by omega), mvL_dn (by omega) (by omega)] at a; exact a, hgk.2.tr (by rw [q] at b; exact b)⟩)) ?_
        refine r_iincm (pc := 67) dX5_takeRun_67 rfl (Nat.le_of_ble_eq_true rfl) rfl ?_
        dsimp only [lset]
        refine r_goto (pc := 70) 46 dX5_takeRun_70 (by decide) ?_
        exact ih (by omega)
  refine aw_P (P' := fun g' => RowAt r cap l g' ∧ Off r 2 g g') (fun g' e => by subst e; exact ⟨hR, Off.rf _ _ _⟩) ?_
  refine r_iload_n (pc := 0) dX5_takeRun_0 rfl ?_
  refine r_iload_n (pc := 1) dX5_takeRun_1 rfl ?_
  refine r_icmp_lt (pc := 2) 40 dX5_takeRun_2 (by decide) (fun c2 => ?_) (fun c2 => ?_)
  · skip
    have k2 := fa_lt.mp c2
    refine r_iload (pc := 40) dX5_takeRun_40 rfl ?_
    refine r_iconst (pc := 42) (v := 1) dX5_takeRun_42 (by decide) ?_
    refine r_isub (pc := 43) dX5_takeRun_43 ?_
    refine r_istore (pc := 44) dX5_takeRun_44 (Nat.le_of_ble_eq_true rfl) rfl ?_
    dsimp only [lset]
    exact aw_P (fun g' q => ⟨by rw [mvL_0]; exact q.1, q.2⟩) (B n (Nat.le_refl _) (by omega))
  · skip
    have k2 : j ≤ i := by have : ¬ (nI i).toInt < (nI j).toInt := fun q => c2 (fa_lt.mpr q); omega
    refine r_iconst (pc := 5) (v := 0) dX5_takeRun_5 (by decide) ?_
    refine r_istore (pc := 6) dX5_takeRun_6 (Nat.le_of_ble_eq_true rfl) rfl ?_
    dsimp only [lset]
    exact aw_P (fun g' q => ⟨by rw [mvL_0]; exact q.1, q.2⟩) (A 0 (Nat.zero_le _) k2)
set_option maxHeartbeats 4000000 in
/-- a new row of cap numbers, none yet; its array is the next cell -/
theorem ct_Row_init {r cap : Nat} {g : AH} (hc : cap ≤ 4000) (hr : r + 1 = g.1) (ho : g.2 r = .inr (.inr (4, [.null, .int 0]))) : CT 2 1 cap mX5_init [.ref r, .int (nI cap)] g (fun v g' => v = none ∧ RowAt r cap [] g' ∧ g'.1 = g.1 + 1 ∧ ∀ j, j < r → g'.2 j = g.2 j) := by
  refine ct_of (by decide) (fun _ _ => Nat.le_of_ble_eq_true rfl) ?_
  dsimp only [pad, ent]
  have hT2 := nI_T (n := cap) hc
  have hm : (if (0 : Int32) < nI cap then nI cap else 0) = nI cap := by
    by_cases h : (0 : Int32) < nI cap
    · rw [if_pos h]
    · rw [if_neg h]; apply Int32.toInt_inj.mp; have : ¬ (0 : Int) < (nI cap).toInt := fun q => h (fa_lt.mpr q); rw [t0]; omega
  refine r_aload_n (pc := 0) dX5_init_0 rfl ?_
  refine r_objInit (pc := 1) dX5_init_1 nX5_1 oi_i oi_c ⟨Nat.le_of_ble_eq_true rfl, Nat.le_of_ble_eq_true rfl⟩ (Nat.le_of_ble_eq_true rfl) ?_
  refine r_aload_n (pc := 4) dX5_init_4 rfl ?_
  refine r_iconst (pc := 5) (v := 0) dX5_init_5 (by decide) ?_
  refine r_putf (pc := 6) (k := 1) (P' := fun g' => g' = hset g r (.inr (.inr (4, [.null, .int 0])))) tyX5 dX5_init_6 hX5 tyX5_ok nmX5 eX5 (by decide) fX5_7 rfl rfl (fun _ _ => rfl) (fun _ _ => rfl) (Nat.le_of_ble_eq_true rfl) (fun g' e => by subst e; exact ⟨by omega, ho⟩) (fun g' e => by rw [e]; rfl) ?_
  refine r_aload_n (pc := 9) dX5_init_9 rfl ?_
  refine r_iconst (pc := 10) (v := 0) dX5_init_10 (by decide) ?_
  refine r_iload_n (pc := 11) dX5_init_11 rfl ?_
  refine r_mmax (pc := 12) dX5_init_12 nX5_13 ma_s_max z_math ma_c_max ⟨Nat.le_of_ble_eq_true rfl, Nat.le_of_ble_eq_true rfl⟩ (Nat.le_of_ble_eq_true rfl) ⟨Nat.zero_le _, Nat.zero_le _⟩ rfl ?_
  rw [hm]
  refine r_newa (pc := 15) (n := g.1) (N := cap) (P' := fun g' => g' = hnew (hset g r (.inr (.inr (4, [.null, .int 0])))) (.inl (cap, fun _ => 0))) dX5_init_15 a_int hT2 (by omega) (Nat.le_refl _) (by show 0 + cap ≤ cap; omega) (fun g' e => by rw [e]; rfl) (fun g' e => by rw [e]) ?_
  refine r_putF (pc := 17) (k := 0) (P' := fun g' => g' = hset (hnew (hset g r (.inr (.inr (4, [.null, .int 0])))) (.inl (cap, fun _ => 0))) r (.inr (.inr (4, [.ref g.1, .int 0])))) tyX5 dX5_init_17 hX5 tyX5_ok nmX5 eX5 (by decide) fX5_19 rfl rfl rfl rfl (fun _ _ => rfl) (fun _ _ => rfl) (Nat.le_of_ble_eq_true rfl) (fun g' e => by subst e; exact ⟨by show r < g.1 + 1; omega, by show (if r = g.1 then _ else if r = r then _ else _) = _; rw [if_neg (by omega), if_pos rfl]⟩) (fun g' e => by rw [e]; rfl) ?_
  refine r_return (pc := 20) dX5_init_20 rfl ⟨Nat.le_refl _, by show 0 + cap ≤ cap; omega⟩ (fun gE hg => ?_)
  subst hg
  refine ⟨rfl, ⟨by show r + 1 < g.1 + 1; omega, Nat.zero_le _, hc, fun _ => 0, ?_, ?_, fun j hj => absurd hj (Nat.not_lt_zero j)⟩, rfl, fun j hj => ?_⟩
  · show (if r = r then _ else _) = _
    rw [if_pos rfl, hr]; rfl
  · show (if r + 1 = r then _ else if r + 1 = g.1 then _ else _) = _
    rw [if_neg (by omega), if_pos hr]
  · show (if j = r then _ else if j = g.1 then _ else if j = r then _ else _) = _
    rw [if_neg (by omega), if_neg (by omega), if_neg (by omega)]
