/-! TEXTS ARE READ (OneGoCeiling$Reader): the place, whether a text goes on, the steps so far -/
abbrev RS : Type := Nat × Bool × List Int32
def nxB (bs : List Int32) (σ : RS) : Int32 := if σ.1 < bs.length then bs.getD σ.1 0 else -1
def adB (σ : RS) : RS := (σ.1 + 1, σ.2.1, σ.2.2)
def psB (x : Int32) (σ : RS) : RS := (σ.1, σ.2.1, addL 50 σ.2.2 x)
def emB (s : Int32) (σ : RS) : RS := (σ.1, σ.2.1, addL 50 σ.2.2 (20000 + s))
def flB (σ : RS) : RS := (σ.1, false, σ.2.2)
def isB (bs : List Int32) (s : Int32) (σ : RS) : Bool := σ.2.1 && decide (nxB bs σ = s)
def digB (c : Int32) : Bool := decide (48 ≤ c.toInt ∧ c.toInt ≤ 57)
def numB (bs : List Int32) : Nat → Int32 → RS → RS
  | 0, v, σ => psB v σ
  | n + 1, v, σ => if digB (nxB bs σ) = true then numB bs n (v * 10 + nxB bs σ - 48) (adB σ) else psB v σ
def chainB (bs : List Int32) (ops : List Int32) (el : RS → RS) : Nat → RS → RS
  | 0, σ => σ
  | n + 1, σ => if σ.2.1 = true ∧ nxB bs σ ∈ ops then chainB bs ops el n (emB (nxB bs σ) (el (adB σ))) else σ
def loopB (bs : List Int32) (ops : List Int32) (el : RS → RS) (σ : RS) : RS := chainB bs ops el 50 (el σ)
def cmpB (bs : List Int32) (el : RS → RS) (σ : RS) : RS := if (el σ).2.1 = true ∧ nxB bs (el σ) ∈ [60, 61, 62] then emB (nxB bs (el σ)) (el (adB (el σ))) else el σ
def allB (bs : List Int32) (q : RS → RS) : RS → RS := loopB bs [124] (loopB bs [38] (cmpB bs (loopB bs [43, 45] (loopB bs [42, 47, 37] q))))
/-- Q, with so many more of ! and ( that may be open -/
def facB (use : Int32) (bs : List Int32) : Nat → RS → RS
  | 0, σ => if σ.2.1 = false then σ else if digB (nxB bs σ) = true then numB bs 4 0 σ else if 0 ≤ nameI use (nxB bs σ) then psB (10000 + nameI use (nxB bs σ)) (adB σ) else flB σ
  | d + 1, σ => if σ.2.1 = false then σ else if digB (nxB bs σ) = true then numB bs 4 0 σ else if 0 ≤ nameI use (nxB bs σ) then psB (10000 + nameI use (nxB bs σ)) (adB σ)
    else if nxB bs σ = 33 then emB 33 (facB use bs d (adB σ)) else if nxB bs σ = 40 then (if isB bs 41 (allB bs (facB use bs d) (adB σ)) = true then adB (allB bs (facB use bs d) (adB σ)) else flB (allB bs (facB use bs d) (adB σ))) else flB σ
def RdAt (ρ tp tt : Nat) (use : Int32) (bs : List Int32) (σ : RS) (g : AH) : Prop :=
  ρ < g.1 ∧ g.2 ρ = .inr (.inr (3, [.ref (ρ + 1), .ref tp, .ref tt, .int (nI σ.1), .int (b2i σ.2.1)])) ∧ RowAt (ρ + 1) 50 σ.2.2 g ∧ RowAt tp 50 bs g ∧ (∃ l, TextAt tt use l g) ∧ σ.1 ≤ bs.length ∧ (tp + 2 ≤ ρ ∨ ρ + 3 ≤ tp) ∧ (tt + 5 ≤ ρ ∨ ρ + 3 ≤ tt)
section Rd
variable {ρ tp tt : Nat} {use : Int32} {bs : List Int32} {σ : RS} {g h : AH} {P' : AH → Prop}
theorem RdAt.o (q : RdAt ρ tp tt use bs σ g) : ρ < g.1 ∧ g.2 ρ = .inr (.inr (3, [.ref (ρ + 1), .ref tp, .ref tt, .int (nI σ.1), .int (b2i σ.2.1)])) := ⟨q.1, q.2.1⟩
theorem RdAt.V (q : RdAt ρ tp tt use bs σ g) : ∃ (fs : List Value) (T : u_T) (N : Nat), ρ < g.1 ∧ g.2 ρ = .inr (.inr (3, fs)) ∧ vwCl[3]? = some (RX4, T, N) := ⟨_, _, _, q.1, q.2.1, rfl⟩
theorem RdAt.put {a : Nat} {f : Bool} (q : RdAt ρ tp tt use bs σ g) (ha : a ≤ bs.length) : RdAt ρ tp tt use bs (a, f, σ.2.2) (hset g ρ (.inr (.inr (3, [.ref (ρ + 1), .ref tp, .ref tt, .int (nI a), .int (b2i f)])))) := by
  obtain ⟨q1, q2, q3, q4, ⟨l, q5⟩, q6, q7, q8⟩ := q
  exact ⟨q1, hset_same _ _ _, q3.off Off.one (by omega), q4.off Off.one (by omega), ⟨l, q5.off Off.one (by omega)⟩, ha, q7, q8⟩
theorem RdAt.setL {l : List Int32} (q : RdAt ρ tp tt use bs σ h) (hR : RowAt (ρ + 1) 50 l g) (o : Off (ρ + 1) 2 h g) : RdAt ρ tp tt use bs (σ.1, σ.2.1, l) g := by
  obtain ⟨q1, q2, q3, q4, ⟨l, q5⟩, q6, q7, q8⟩ := q
  exact ⟨by rw [o.1]; exact q1, by rw [o.2 ρ (by omega)]; exact q2, hR, q4.off o (by omega), ⟨l, q5.off o (by omega)⟩, q6, q7, q8⟩
theorem RdAt.len (q : RdAt ρ tp tt use bs σ g) : bs.length ≤ 50 := q.2.2.2.1.2.1
theorem has_nI {l : List Int32} {n : Nat} (h : n ≤ 4000) : hasL l (nI n) = decide (n < l.length) := by
  unfold hasL
  rw [nI_T h]
  by_cases e : n < l.length
  · rw [decide_eq_true e, decide_eq_true (by omega)]
  · rw [decide_eq_false e, decide_eq_false (by omega)]
theorem b2i_0 {b : Bool} : b2i b = 0 ↔ b = false := by cases b <;> decide
theorem b2i_n0 {b : Bool} : ¬ b2i b = 0 ↔ b = true := by cases b <;> decide
set_option maxHeartbeats 4000000 in
theorem ct_Rd_next (hR : RdAt ρ tp tt use bs σ g) (hP : P' g) : CV 3 0 0 mX4_next ρ [] g (fun v g' => v = some (.int (nxB bs σ)) ∧ P' g') := by
  refine ⟨hR.V, ?_⟩
  refine ct_of (by decide) (fun _ _ => Nat.le_of_ble_eq_true rfl) ?_
  dsimp only [pad, ent]
  have hl := hR.len
  have hσ := hR.2.2.2.2.2.1
  unfold nxB
  refine aw_P (P' := fun g' => RdAt ρ tp tt use bs σ g' ∧ g' = g) (fun g' e => by subst e; exact ⟨hR, rfl⟩) ?_
  refine r_aload_n (pc := 0) dX4_next_0 rfl ?_
  refine r_getf (pc := 1) (k := 1) dX4_next_1 hX4 eX4 (by decide) fX4_20 (fun _ q => q.1.o) rfl ?_
  refine r_aload_n (pc := 4) dX4_next_4 rfl ?_
  refine r_getf (pc := 5) (k := 3) dX4_next_5 hX4 eX4 (by decide) fX4_27 (fun _ q => q.1.o) rfl ?_
  refine r_Vi (pc := 8) (μ' := mX5_has) dX4_next_8 nX4_49 iX5_has vX5_has kX5_has rfl rfl (rr (by decide) rfl) rfl ⟨Nat.zero_le _, Nat.zero_le _⟩ (fun g' q => ct_Row_has q.1.2.2.2.1 q) ?_
  rw [has_nI (show σ.1 ≤ 4000 by omega)]
  refine r_if_eq (pc := 11) 28 dX4_next_11 (by decide) (fun c11 => ?_) (fun c11 => ?_)
  · skip
    have k := of_decide_eq_false (b2i_0.mp c11)
    rw [if_neg k]
    refine r_iconst (pc := 28) (v := (-1)) dX4_next_28 (by decide) ?_
    refine r_ireturn (pc := 29) (ty := .int) dX4_next_29 rfl rfl ⟨Nat.zero_le _, Nat.zero_le _⟩ (fun gE hg => ?_)
    exact ⟨rfl, by rw [hg.2]; exact hP⟩
  · skip
    have k := of_decide_eq_true (b2i_n0.mp c11)
    rw [if_pos k]
    refine r_aload_n (pc := 14) dX4_next_14 rfl ?_
    refine r_getf (pc := 15) (k := 1) dX4_next_15 hX4 eX4 (by decide) fX4_20 (fun _ q => q.1.o) rfl ?_
    refine r_aload_n (pc := 18) dX4_next_18 rfl ?_
    refine r_getf (pc := 19) (k := 3) dX4_next_19 hX4 eX4 (by decide) fX4_27 (fun _ q => q.1.o) rfl ?_
    refine r_Vi (pc := 22) (μ' := mX5_at) dX4_next_22 nX4_53 iX5_at vX5_at kX5_at rfl rfl (rr (by decide) rfl) rfl ⟨Nat.zero_le _, Nat.zero_le _⟩ (fun g' q => ct_Row_at q.1.2.2.2.1 q) ?_
    rw [atL_nI (show σ.1 ≤ 4000 by omega)]
    refine r_goto (pc := 25) 29 dX4_next_25 (by decide) ?_
    refine r_ireturn (pc := 29) (ty := .int) dX4_next_29 rfl rfl ⟨Nat.zero_le _, Nat.zero_le _⟩ (fun gE hg => ?_)
    exact ⟨rfl, by rw [hg.2]; exact hP⟩
set_option maxHeartbeats 4000000 in
theorem ct_Rd_nextIs {s : Int32} (hR : RdAt ρ tp tt use bs σ g) (hP : P' g) : CV 4 0 0 mX4_nextIs ρ [.int s] g (fun v g' => v = some (.int (b2i (isB bs s σ))) ∧ P' g') := by
  refine ⟨hR.V, ?_⟩
  refine ct_of (by decide) (fun _ _ => Nat.le_of_ble_eq_true rfl) ?_
  dsimp only [pad, ent]
  unfold isB
  refine aw_P (P' := fun g' => RdAt ρ tp tt use bs σ g' ∧ g' = g) (fun g' e => by subst e; exact ⟨hR, rfl⟩) ?_
  refine r_aload_n (pc := 0) dX4_nextIs_0 rfl ?_
  refine r_getf (pc := 1) (k := 4) dX4_nextIs_1 hX4 eX4 (by decide) fX4_31 (fun _ q => q.1.o) rfl ?_
  refine r_if_eq (pc := 4) 19 dX4_nextIs_4 (by decide) (fun c4 => ?_) (fun c4 => ?_)
  · skip
    have k := b2i_0.mp c4
    rw [k, Bool.false_and]
    refine r_iconst (pc := 19) (v := 0) dX4_nextIs_19 (by decide) ?_
    refine r_ireturn (pc := 20) (ty := .boolean) dX4_nextIs_20 rfl rfl ⟨Nat.zero_le _, Nat.zero_le _⟩ (fun gE hg => ?_)
    exact ⟨rfl, by rw [hg.2]; exact hP⟩
  · skip
    have k := b2i_n0.mp c4
    rw [k, Bool.true_and]
    refine r_aload_n (pc := 7) dX4_nextIs_7 rfl ?_
    refine r_Vi (pc := 8) (μ' := mX4_next) dX4_nextIs_8 nX4_56 iX4_next vX4_next kX4_next rfl rfl (rr (by decide) rfl) rfl ⟨Nat.zero_le _, Nat.zero_le _⟩ (fun g' q => ct_Rd_next q.1 q) ?_
    refine r_iload_n (pc := 11) dX4_nextIs_11 rfl ?_
    refine r_icmp_ne (pc := 12) 19 dX4_nextIs_12 (by decide) (fun c12 => ?_) (fun c12 => ?_)
    · skip
      rw [decide_eq_false c12]
      refine r_iconst (pc := 19) (v := 0) dX4_nextIs_19 (by decide) ?_
      refine r_ireturn (pc := 20) (ty := .boolean) dX4_nextIs_20 rfl rfl ⟨Nat.zero_le _, Nat.zero_le _⟩ (fun gE hg => ?_)
      exact ⟨rfl, by rw [hg.2]; exact hP⟩
    · skip
      rw [decide_eq_true c12]
      refine r_iconst (pc := 15) (v := 1) dX4_nextIs_15 (by decide) ?_
      refine r_goto (pc := 16) 20 dX4_nextIs_16 (by decide) ?_
      refine r_ireturn (pc := 20) (ty := .boolean) dX4_nextIs_20 rfl rfl ⟨Nat.zero_le _, Nat.zero_le _⟩ (fun gE hg => ?_)
      exact ⟨rfl, by rw [hg.2]; exact hP⟩
set_option maxHeartbeats 4000000 in
theorem ct_Rd_emit {s : Int32} (hR : RdAt ρ tp tt use bs σ g) (hP : ∀ g', RdAt ρ tp tt use bs (emB s σ) g' → Off ρ 3 g g' → P' g') : CV 2 0 0 mX4_emit ρ [.int s] g (fun v g' => v = none ∧ P' g') := by
  refine ⟨hR.V, ?_⟩
  refine ct_of (by decide) (fun _ _ => Nat.le_of_ble_eq_true rfl) ?_
  dsimp only [pad, ent]
  refine aw_P (P' := fun g' => RdAt ρ tp tt use bs σ g' ∧ g' = g) (fun g' e => by subst e; exact ⟨hR, rfl⟩) ?_
  refine r_aload_n (pc := 0) dX4_emit_0 rfl ?_
  refine r_getf (pc := 1) (k := 0) dX4_emit_1 hX4 eX4 (by decide) fX4_14 (fun _ q => q.1.o) rfl ?_
  refine r_sipush (pc := 4) (v := 20000) dX4_emit_4 (by decide) ?_
  refine r_iload_n (pc := 7) dX4_emit_7 rfl ?_
  refine r_iadd (pc := 8) dX4_emit_8 ?_
  refine r_Vi (pc := 9) (μ' := mX5_add) dX4_emit_9 nX4_59 iX5_add vX5_add kX5_add rfl rfl (rr (by decide) rfl) rfl ⟨Nat.zero_le _, Nat.zero_le _⟩ (fun g' q => ct_Row_add q.1.2.2.1 (fun g2 a b => by rw [q.2] at b; exact hP g2 (hR.setL a b) (b.wide (by omega) (by omega)))) ?_
  refine r_pop (pc := 12) dX4_emit_12 rfl ?_
  refine r_return (pc := 13) dX4_emit_13 rfl ⟨Nat.zero_le _, Nat.zero_le _⟩ (fun gE hg => ?_)
  exact ⟨rfl, hg⟩
set_option maxHeartbeats 4000000 in
theorem ct_Rd_isDigit {c : Int32} (g : AH) : CT 1 0 0 mX4_isDigit [.int c] g (fun v g' => v = some (.int (b2i (digB c))) ∧ g' = g) := by
  refine ct_of (by decide) (fun _ _ => Nat.le_of_ble_eq_true rfl) ?_
  dsimp only [pad, ent]
  unfold digB
  refine r_iload_n (pc := 0) dX4_isDigit_0 rfl ?_
  refine r_bipush (pc := 1) (v := 48) dX4_isDigit_1 (by decide) ?_
  refine r_icmp_lt (pc := 3) 16 dX4_isDigit_3 (by decide) (fun c3 => ?_) (fun c3 => ?_)
  · skip
    have k1 : c.toInt < 48 := fa_lt.mp c3
    refine r_iconst (pc := 16) (v := 0) dX4_isDigit_16 (by decide) ?_
    refine r_ireturn (pc := 17) (ty := .boolean) dX4_isDigit_17 rfl rfl ⟨Nat.zero_le _, Nat.zero_le _⟩ (fun gE hg => ?_)
    refine ⟨?_, hg⟩
    first
    | (rw [decide_eq_true (by omega)]; rfl)
    | (rw [decide_eq_false (by omega)]; rfl)
  · skip
    have k1 : ¬ c.toInt < 48 := fun q => c3 (fa_lt.mpr q)
    refine r_iload_n (pc := 6) dX4_isDigit_6 rfl ?_
    refine r_bipush (pc := 7) (v := 57) dX4_isDigit_7 (by decide) ?_
    refine r_icmp_gt (pc := 9) 16 dX4_isDigit_9 (by decide) (fun c9 => ?_) (fun c9 => ?_)
    · skip
      have k2 : (57 : Int) < c.toInt := fa_lt.mp c9
      refine r_iconst (pc := 16) (v := 0) dX4_isDigit_16 (by decide) ?_
      refine r_ireturn (pc := 17) (ty := .boolean) dX4_isDigit_17 rfl rfl ⟨Nat.zero_le _, Nat.zero_le _⟩ (fun gE hg => ?_)
      refine ⟨?_, hg⟩
      first
      | (rw [decide_eq_true (by omega)]; rfl)
      | (rw [decide_eq_false (by omega)]; rfl)
    · skip
      have k2 : ¬ (57 : Int) < c.toInt := fun q => c9 (fa_lt.mpr q)
      refine r_iconst (pc := 12) (v := 1) dX4_isDigit_12 (by decide) ?_
      refine r_goto (pc := 13) 17 dX4_isDigit_13 (by decide) ?_
      refine r_ireturn (pc := 17) (ty := .boolean) dX4_isDigit_17 rfl rfl ⟨Nat.zero_le _, Nat.zero_le _⟩ (fun gE hg => ?_)
      refine ⟨?_, hg⟩
      first
      | (rw [decide_eq_true (by omega)]; rfl)
      | (rw [decide_eq_false (by omega)]; rfl)
theorem nx_lt {c : Int32} (h : nxB bs σ = c) (hc : ¬ c = -1) : σ.1 < bs.length := by
  unfold nxB at h
  by_cases e : σ.1 < bs.length
  · exact e
  · rw [if_neg e] at h; exact absurd h.symm hc
theorem dig_lt (h : digB (nxB bs σ) = true) : σ.1 < bs.length := by
  refine nx_lt rfl fun q => ?_
  rw [q] at h
  exact absurd h (by decide)
theorem name_lt (h : 0 ≤ nameI use (nxB bs σ)) : σ.1 < bs.length := by
  refine nx_lt rfl fun q => ?_
  rw [q] at h
  unfold nameI at h
  rw [if_neg (by decide), if_neg (by decide), if_neg (by split <;> decide)] at h
  exact absurd h (by decide)
set_option maxHeartbeats 4000000 in
theorem ct_Rd_readNumber (hR : RdAt ρ tp tt use bs σ g) (hP : ∀ g', RdAt ρ tp tt use bs (numB bs 4 0 σ) g' → Off ρ 3 g g' → P' g') : CV 4 0 0 mX4_readNumber ρ [] g (fun v g' => v = none ∧ P' g') := by
  refine ⟨hR.V, ?_⟩
  refine ct_of (by decide) (fun _ _ => Nat.le_of_ble_eq_true rfl) ?_
  dsimp only [pad, ent]
  have L : ∀ (n : Nat) (v : Int32) (τ : RS), n ≤ 4 → (∀ g', RdAt ρ tp tt use bs (numB bs n v τ) g' → Off ρ 3 g g' → P' g') → AW (fun _ => True) (rmd 4 0 0) mX4_readNumber 0 0 4 [some (.ref ρ), some (.int v), some (.int (nI (4 - n)))] [] (fun g' => RdAt ρ tp tt use bs τ g' ∧ Off ρ 3 g g') (fun v g' => v = none ∧ P' g') := by
    intro n
    induction n with
    | zero =>
      intro v τ hn hP
      refine r_iload_n (pc := 4) dX4_readNumber_4 rfl ?_
      refine r_iconst (pc := 5) (v := 4) dX4_readNumber_5 (by decide) ?_
      refine r_icmp_ge (pc := 6) 48 dX4_readNumber_6 (by decide) (fun c6 => ?_) (fun c6 => ?_)
      · skip
        refine r_aload_n (pc := 48) dX4_readNumber_48 rfl ?_
        refine r_getf (pc := 49) (k := 0) dX4_readNumber_49 hX4 eX4 (by decide) fX4_14 (fun _ q => q.1.o) rfl ?_
        refine r_iload_n (pc := 52) dX4_readNumber_52 rfl ?_
        refine r_Vi (pc := 53) (μ' := mX5_add) dX4_readNumber_53 nX4_59 iX5_add vX5_add kX5_add rfl rfl (rr (by decide) rfl) rfl ⟨Nat.zero_le _, Nat.zero_le _⟩ (fun g' q => ct_Row_add q.1.2.2.1 (fun g2 a b => hP g2 (q.1.setL a b) (q.2.tr (b.wide (by omega) (by omega))))) ?_
        refine r_pop (pc := 56) dX4_readNumber_56 rfl ?_
        refine r_return (pc := 57) dX4_readNumber_57 rfl ⟨Nat.zero_le _, Nat.zero_le _⟩ (fun gE hg => ?_)
        exact ⟨rfl, hg⟩
      · skip
        exact absurd (show (4 : Int32) ≤ nI (4 - 0) by decide) c6
    | succ n ih =>
      intro v τ hn hP
      have hT : (nI (4 - (n + 1))).toInt = ((4 - (n + 1) : Nat) : Int) := nI_T (by omega)
      refine r_iload_n (pc := 4) dX4_readNumber_4 rfl ?_
      refine r_iconst (pc := 5) (v := 4) dX4_readNumber_5 (by decide) ?_
      refine r_icmp_ge (pc := 6) 48 dX4_readNumber_6 (by decide) (fun c6 => ?_) (fun c6 => ?_)
      · skip
        exact absurd (fa_le.mp c6) (by rw [hT, show (4 : Int32).toInt = 4 from rfl]; omega)
      · skip
        refine r_aload_n (pc := 9) dX4_readNumber_9 rfl ?_
        refine r_Vi (pc := 10) (μ' := mX4_next) dX4_readNumber_10 nX4_56 iX4_next vX4_next kX4_next rfl rfl (rr (by decide) rfl) rfl ⟨Nat.zero_le _, Nat.zero_le _⟩ (fun g' q => ct_Rd_next q.1 q) ?_
        refine r_Sp (pc := 13) (μ' := mX4_isDigit) dX4_readNumber_13 nX4_83 sX4_isDigit kX4_isDigit rfl rfl (rr (by decide) rfl) rfl ⟨Nat.zero_le _, Nat.zero_le _⟩ (fun h => ct_Rd_isDigit h) ?_
        refine r_if_eq (pc := 16) 48 dX4_readNumber_16 (by decide) (fun c16 => ?_) (fun c16 => ?_)
        · skip
          have k := b2i_0.mp c16
          have e : numB bs (n + 1) v τ = psB v τ := by rw [numB, if_neg (by rw [k]; decide)]
          rw [e] at hP
          refine r_aload_n (pc := 48) dX4_readNumber_48 rfl ?_
          refine r_getf (pc := 49) (k := 0) dX4_readNumber_49 hX4 eX4 (by decide) fX4_14 (fun _ q => q.1.o) rfl ?_
          refine r_iload_n (pc := 52) dX4_readNumber_52 rfl ?_
          refine r_Vi (pc := 53) (μ' := mX5_add) dX4_readNumber_53 nX4_59 iX5_add vX5_add kX5_add rfl rfl (rr (by decide) rfl) rfl ⟨Nat.zero_le _, Nat.zero_le _⟩ (fun g' q => ct_Row_add q.1.2.2.1 (fun g2 a b => hP g2 (q.1.setL a b) (q.2.tr (b.wide (by omega) (by omega))))) ?_
          refine r_pop (pc := 56) dX4_readNumber_56 rfl ?_
          refine r_return (pc := 57) dX4_readNumber_57 rfl ⟨Nat.zero_le _, Nat.zero_le _⟩ (fun gE hg => ?_)
          exact ⟨rfl, hg⟩
        · skip
          have k := b2i_n0.mp c16
          have e : numB bs (n + 1) v τ = numB bs n (v * 10 + nxB bs τ - 48) (adB τ) := by rw [numB, if_pos k]
          rw [e] at hP
          have hlt := dig_lt k
          refine r_iload_n (pc := 19) dX4_readNumber_19 rfl ?_
          refine r_bipush (pc := 20) (v := 10) dX4_readNumber_20 (by decide) ?_
          refine r_imul (pc := 22) dX4_readNumber_22 ?_
          refine r_aload_n (pc := 23) dX4_readNumber_23 rfl ?_
          refine r_Vi (pc := 24) (μ' := mX4_next) dX4_readNumber_24 nX4_56 iX4_next vX4_next kX4_next rfl rfl (rr (by decide) rfl) rfl ⟨Nat.zero_le _, Nat.zero_le _⟩ (fun g' q => ct_Rd_next q.1 q) ?_
          refine r_iadd (pc := 27) dX4_readNumber_27 ?_
          refine r_bipush (pc := 28) (v := 48) dX4_readNumber_28 (by decide) ?_
          refine r_isub (pc := 30) dX4_readNumber_30 ?_
          refine r_istore_n (pc := 31) dX4_readNumber_31 rfl (Nat.le_of_ble_eq_true rfl) rfl ?_
          dsimp only [lset]
          refine r_aload_n (pc := 32) dX4_readNumber_32 rfl ?_
          refine r_dup (pc := 33) dX4_readNumber_33 rfl ?_
          refine r_getf (pc := 34) (k := 3) dX4_readNumber_34 hX4 eX4 (by decide) fX4_27 (fun _ q => q.1.o) rfl ?_
          refine r_iconst (pc := 37) (v := 1) dX4_readNumber_37 (by decide) ?_
          refine r_iadd (pc := 38) dX4_readNumber_38 ?_
          rw [nI_s]
          refine r_putf (pc := 39) (k := 3) (P' := fun g' => RdAt ρ tp tt use bs (adB τ) g' ∧ Off ρ 3 g g') tyX4 dX4_readNumber_39 hX4 tyX4_ok nmX4 eX4 (by decide) fX4_27 rfl rfl (fun _ _ => rfl) (fun _ _ => rfl) (Nat.le_of_ble_eq_true rfl) (fun _ q => q.1.o) (fun _ q => ⟨q.1.put hlt, q.2.set (by omega) (by omega)⟩) ?_
          refine r_iinc1 (pc := 42) dX4_readNumber_42 rfl (Nat.le_of_ble_eq_true rfl) rfl ?_
          dsimp only [lset]
          refine r_goto (pc := 45) 4 dX4_readNumber_45 (by decide) ?_
          rw [nI_s, show 4 - (n + 1) + 1 = 4 - n by omega]
          exact ih _ _ (by omega) hP
  refine aw_P (P' := fun g' => RdAt ρ tp tt use bs σ g' ∧ Off ρ 3 g g') (fun g' e => by subst e; exact ⟨hR, Off.rf _ _ _⟩) ?_
  refine r_iconst (pc := 0) (v := 0) dX4_readNumber_0 (by decide) ?_
  refine r_istore_n (pc := 1) dX4_readNumber_1 rfl (Nat.le_of_ble_eq_true rfl) rfl ?_
  dsimp only [lset]
  refine r_iconst (pc := 2) (v := 0) dX4_readNumber_2 (by decide) ?_
  refine r_istore_n (pc := 3) dX4_readNumber_3 rfl (Nat.le_of_ble_eq_true rfl) rfl ?_
  dsimp only [lset]
  exact L 4 0 σ (Nat.le_refl _) hP
end Rd
/-- a reading method's contract -/
def RdC (D : Nat) (μ : MI) (as : List Value) (f : Int32 → List Int32 → RS → RS) : Prop :=
  ∀ (ρ tp tt : Nat) (use : Int32) (bs : List Int32) (σ : RS) (g : AH) (P' : AH → Prop), RdAt ρ tp tt use bs σ g → (∀ g', RdAt ρ tp tt use bs (f use bs σ) g' → Off ρ 3 g g' → P' g') → CV D 0 0 μ ρ as g (fun v g' => v = none ∧ P' g')
theorem isB_op {bs : List Int32} {s : Int32} {σ : RS} (h : isB bs s σ = true) : σ.2.1 = true ∧ nxB bs σ = s := by
  unfold isB at h
  rw [Bool.and_eq_true] at h
  exact ⟨h.1, of_decide_eq_true h.2⟩
theorem isB_no {bs : List Int32} {s : Int32} {σ : RS} (h : isB bs s σ = false) : ¬ (σ.2.1 = true ∧ nxB bs σ = s) := by
  intro q
  unfold isB at h
  rw [q.1, decide_eq_true q.2] at h
  exact absurd h (by decide)
set_option maxHeartbeats 4000000 in
theorem ct_Rd_readT {D : Nat} {op : Int32} {f : Int32 → List Int32 → RS → RS} (hD : 5 ≤ D) (hE : RdC D mX4_readA [.int op] f) : RdC (D + 1) mX4_readT [.int op] (fun use bs => loopB bs [124] (f use bs)) := by
  intro ρ tp tt use bs σ g P' hR hP
  refine ⟨hR.V, ?_⟩
  refine ct_of (by decide) (fun _ _ => Nat.le_of_ble_eq_true rfl) ?_
  dsimp only [pad, ent]
  have L : ∀ (n : Nat) (τ : RS), n ≤ 50 → (∀ g', RdAt ρ tp tt use bs (chainB bs [124] (f use bs) n τ) g' → Off ρ 3 g g' → P' g') → AW (fun _ => True) (rmd (D + 1) 0 0) mX4_readT 0 0 7 [some (.ref ρ), some (.int op), some (.int (nI (50 - n)))] [] (fun g' => RdAt ρ tp tt use bs τ g' ∧ Off ρ 3 g g') (fun v g' => v = none ∧ P' g') := by
    intro n
    induction n with
    | zero =>
      intro τ hn hP
      refine r_iload_n (pc := 7) dX4_readT_7 rfl ?_
      refine r_bipush (pc := 8) (v := 50) dX4_readT_8 (by decide) ?_
      refine r_icmp_ge (pc := 10) 49 dX4_readT_10 (by decide) (fun c10 => ?_) (fun c10 => ?_)
      · skip
        refine r_return (pc := 49) dX4_readT_49 rfl ⟨Nat.zero_le _, Nat.zero_le _⟩ (fun gE hg => ?_)
        exact ⟨rfl, hP _ hg.1 hg.2⟩
      · skip
        exact absurd (show (50 : Int32) ≤ nI (50 - 0) by decide) c10
    | succ n ih =>
      intro τ hn hP
      have hT : (nI (50 - (n + 1))).toInt = ((50 - (n + 1) : Nat) : Int) := nI_T (by omega)
      have hno : ¬ (τ.2.1 = true ∧ nxB bs τ ∈ ([124] : List Int32)) → chainB bs [124] (f use bs) (n + 1) τ = τ := fun q => by rw [chainB, if_neg q]
      have hyes : τ.2.1 = true ∧ nxB bs τ ∈ ([124] : List Int32) → chainB bs [124] (f use bs) (n + 1) τ = chainB bs [124] (f use bs) n (emB (nxB bs τ) (f use bs (adB τ))) := fun q => by rw [chainB, if_pos q]
      refine r_iload_n (pc := 7) dX4_readT_7 rfl ?_
      refine r_bipush (pc := 8) (v := 50) dX4_readT_8 (by decide) ?_
      refine r_icmp_ge (pc := 10) 49 dX4_readT_10 (by decide) (fun c10 => ?_) (fun c10 => ?_)
      · skip
        exact absurd (fa_le.mp c10) (by rw [hT, show (50 : Int32).toInt = 50 from rfl]; omega)
      · skip
        refine r_aload_n (pc := 13) dX4_readT_13 rfl ?_
        refine r_bipush (pc := 14) (v := 124) dX4_readT_14 (by decide) ?_
        refine r_Vi (pc := 16) (μ' := mX4_nextIs) dX4_readT_16 nX4_65 iX4_nextIs vX4_nextIs kX4_nextIs rfl rfl (rr (by omega) rfl) rfl ⟨Nat.zero_le _, Nat.zero_le _⟩ (fun g' q => ct_Rd_nextIs q.1 q) ?_
        refine r_if_eq (pc := 19) 49 dX4_readT_19 (by decide) (fun c19 => ?_) (fun c19 => ?_)
        · skip
          have n19 := isB_no (b2i_0.mp c19)
          rw [hno (fun q => by
            have m := q.2
            simp only [List.mem_cons, List.not_mem_nil, or_false] at m
            rcases m with m
            · exact n19 ⟨q.1, m⟩)] at hP
          refine r_return (pc := 49) dX4_readT_49 rfl ⟨Nat.zero_le _, Nat.zero_le _⟩ (fun gE hg => ?_)
          exact ⟨rfl, hP _ hg.1 hg.2⟩
        · skip
          have y := isB_op (b2i_n0.mp c19)
          have yl := nx_lt y.2 (by decide)
          rw [hyes ⟨y.1, by rw [y.2]; decide⟩] at hP
          refine r_aload_n (pc := 22) dX4_readT_22 rfl ?_
          refine r_dup (pc := 23) dX4_readT_23 rfl ?_
          refine r_getf (pc := 24) (k := 3) dX4_readT_24 hX4 eX4 (by decide) fX4_27 (fun _ q => q.1.o) rfl ?_
          refine r_iconst (pc := 27) (v := 1) dX4_readT_27 (by decide) ?_
          refine r_iadd (pc := 28) dX4_readT_28 ?_
          rw [y.2] at hP
          refine r_putf (pc := 29) (k := 3) (P' := fun g' => RdAt ρ tp tt use bs (adB τ) g' ∧ Off ρ 3 g g') tyX4 dX4_readT_29 hX4 tyX4_ok nmX4 eX4 (by decide) fX4_27 rfl rfl (fun _ _ => rfl) (fun _ _ => rfl) (Nat.le_of_ble_eq_true rfl) (fun _ q => q.1.o) (fun _ q => ⟨by rw [nI_s]; exact q.1.put yl, q.2.set (by omega) (by omega)⟩) ?_
          refine r_aload_n (pc := 32) dX4_readT_32 rfl ?_
          refine r_iload_n (pc := 33) dX4_readT_33 rfl ?_
          refine r_Vv (pc := 34) (μ' := mX4_readA) dX4_readT_34 nX4_62 iX4_readA vX4_readA kX4_readA rfl rfl (rr (by omega) rfl) rfl ⟨Nat.zero_le _, Nat.zero_le _⟩ (fun g' q => hE ρ tp tt use bs (adB τ) g' (fun g2 => RdAt ρ tp tt use bs (f use bs (adB τ)) g2 ∧ Off ρ 3 g g2) q.1 (fun g2 a b => ⟨a, q.2.tr b⟩)) ?_
          refine r_aload_n (pc := 37) dX4_readT_37 rfl ?_
          refine r_bipush (pc := 38) (v := 124) dX4_readT_38 (by decide) ?_
          refine r_Vv (pc := 40) (μ' := mX4_emit) dX4_readT_40 nX4_68 iX4_emit vX4_emit kX4_emit rfl rfl (rr (by omega) rfl) rfl ⟨Nat.zero_le _, Nat.zero_le _⟩ (fun g' q => ct_Rd_emit (P' := fun g2 => RdAt ρ tp tt use bs (emB 124 (f use bs (adB τ))) g2 ∧ Off ρ 3 g g2) q.1 (fun g2 a b => ⟨a, q.2.tr b⟩)) ?_
          refine r_iinc1 (pc := 43) dX4_readT_43 rfl (Nat.le_of_ble_eq_true rfl) rfl ?_
          dsimp only [lset]
          refine r_goto (pc := 46) 7 dX4_readT_46 (by decide) ?_
          rw [nI_s, show 50 - (n + 1) + 1 = 50 - n by omega]
          exact ih _ (by omega) hP
  refine aw_P (P' := fun g' => RdAt ρ tp tt use bs σ g' ∧ Off ρ 3 g g') (fun g' e => by subst e; exact ⟨hR, Off.rf _ _ _⟩) ?_
  refine r_aload_n (pc := 0) dX4_readT_0 rfl ?_
  refine r_iload_n (pc := 1) dX4_readT_1 rfl ?_
  refine r_Vv (pc := 2) (μ' := mX4_readA) dX4_readT_2 nX4_62 iX4_readA vX4_readA kX4_readA rfl rfl (rr (by omega) rfl) rfl ⟨Nat.zero_le _, Nat.zero_le _⟩ (fun g' q => hE ρ tp tt use bs σ g' (fun g2 => RdAt ρ tp tt use bs (f use bs σ) g2 ∧ Off ρ 3 g g2) q.1 (fun g2 a b => ⟨a, q.2.tr b⟩)) ?_
  refine r_iconst (pc := 5) (v := 0) dX4_readT_5 (by decide) ?_
  refine r_istore_n (pc := 6) dX4_readT_6 rfl (Nat.le_of_ble_eq_true rfl) rfl ?_
  dsimp only [lset]
  exact L 50 _ (Nat.le_refl _) hP
set_option maxHeartbeats 4000000 in
theorem ct_Rd_readA {D : Nat} {op : Int32} {f : Int32 → List Int32 → RS → RS} (hD : 5 ≤ D) (hE : RdC D mX4_readB [.int op] f) : RdC (D + 1) mX4_readA [.int op] (fun use bs => loopB bs [38] (f use bs)) := by
  intro ρ tp tt use bs σ g P' hR hP
  refine ⟨hR.V, ?_⟩
  refine ct_of (by decide) (fun _ _ => Nat.le_of_ble_eq_true rfl) ?_
  dsimp only [pad, ent]
  have L : ∀ (n : Nat) (τ : RS), n ≤ 50 → (∀ g', RdAt ρ tp tt use bs (chainB bs [38] (f use bs) n τ) g' → Off ρ 3 g g' → P' g') → AW (fun _ => True) (rmd (D + 1) 0 0) mX4_readA 0 0 7 [some (.ref ρ), some (.int op), some (.int (nI (50 - n)))] [] (fun g' => RdAt ρ tp tt use bs τ g' ∧ Off ρ 3 g g') (fun v g' => v = none ∧ P' g') := by
    intro n
    induction n with
    | zero =>
      intro τ hn hP
      refine r_iload_n (pc := 7) dX4_readA_7 rfl ?_
      refine r_bipush (pc := 8) (v := 50) dX4_readA_8 (by decide) ?_
      refine r_icmp_ge (pc := 10) 49 dX4_readA_10 (by decide) (fun c10 => ?_) (fun c10 => ?_)
      · skip
        refine r_return (pc := 49) dX4_readA_49 rfl ⟨Nat.zero_le _, Nat.zero_le _⟩ (fun gE hg => ?_)
        exact ⟨rfl, hP _ hg.1 hg.2⟩
      · skip
        exact absurd (show (50 : Int32) ≤ nI (50 - 0) by decide) c10
    | succ n ih =>
      intro τ hn hP
      have hT : (nI (50 - (n + 1))).toInt = ((50 - (n + 1) : Nat) : Int) := nI_T (by omega)
      have hno : ¬ (τ.2.1 = true ∧ nxB bs τ ∈ ([38] : List Int32)) → chainB bs [38] (f use bs) (n + 1) τ = τ := fun q => by rw [chainB, if_neg q]
      have hyes : τ.2.1 = true ∧ nxB bs τ ∈ ([38] : List Int32) → chainB bs [38] (f use bs) (n + 1) τ = chainB bs [38] (f use bs) n (emB (nxB bs τ) (f use bs (adB τ))) := fun q => by rw [chainB, if_pos q]
      refine r_iload_n (pc := 7) dX4_readA_7 rfl ?_
      refine r_bipush (pc := 8) (v := 50) dX4_readA_8 (by decide) ?_
      refine r_icmp_ge (pc := 10) 49 dX4_readA_10 (by decide) (fun c10 => ?_) (fun c10 => ?_)
      · skip
        exact absurd (fa_le.mp c10) (by rw [hT, show (50 : Int32).toInt = 50 from rfl]; omega)
      · skip
        refine r_aload_n (pc := 13) dX4_readA_13 rfl ?_
        refine r_bipush (pc := 14) (v := 38) dX4_readA_14 (by decide) ?_
        refine r_Vi (pc := 16) (μ' := mX4_nextIs) dX4_readA_16 nX4_65 iX4_nextIs vX4_nextIs kX4_nextIs rfl rfl (rr (by omega) rfl) rfl ⟨Nat.zero_le _, Nat.zero_le _⟩ (fun g' q => ct_Rd_nextIs q.1 q) ?_
        refine r_if_eq (pc := 19) 49 dX4_readA_19 (by decide) (fun c19 => ?_) (fun c19 => ?_)
        · skip
          have n19 := isB_no (b2i_0.mp c19)
          rw [hno (fun q => by
            have m := q.2
            simp only [List.mem_cons, List.not_mem_nil, or_false] at m
            rcases m with m
            · exact n19 ⟨q.1, m⟩)] at hP
          refine r_return (pc := 49) dX4_readA_49 rfl ⟨Nat.zero_le _, Nat.zero_le _⟩ (fun gE hg => ?_)
          exact ⟨rfl, hP _ hg.1 hg.2⟩
        · skip
          have y := isB_op (b2i_n0.mp c19)
          have yl := nx_lt y.2 (by decide)
          rw [hyes ⟨y.1, by rw [y.2]; decide⟩] at hP
          refine r_aload_n (pc := 22) dX4_readA_22 rfl ?_
          refine r_dup (pc := 23) dX4_readA_23 rfl ?_
          refine r_getf (pc := 24) (k := 3) dX4_readA_24 hX4 eX4 (by decide) fX4_27 (fun _ q => q.1.o) rfl ?_
          refine r_iconst (pc := 27) (v := 1) dX4_readA_27 (by decide) ?_
          refine r_iadd (pc := 28) dX4_readA_28 ?_
          rw [y.2] at hP
          refine r_putf (pc := 29) (k := 3) (P' := fun g' => RdAt ρ tp tt use bs (adB τ) g' ∧ Off ρ 3 g g') tyX4 dX4_readA_29 hX4 tyX4_ok nmX4 eX4 (by decide) fX4_27 rfl rfl (fun _ _ => rfl) (fun _ _ => rfl) (Nat.le_of_ble_eq_true rfl) (fun _ q => q.1.o) (fun _ q => ⟨by rw [nI_s]; exact q.1.put yl, q.2.set (by omega) (by omega)⟩) ?_
          refine r_aload_n (pc := 32) dX4_readA_32 rfl ?_
          refine r_iload_n (pc := 33) dX4_readA_33 rfl ?_
          refine r_Vv (pc := 34) (μ' := mX4_readB) dX4_readA_34 nX4_71 iX4_readB vX4_readB kX4_readB rfl rfl (rr (by omega) rfl) rfl ⟨Nat.zero_le _, Nat.zero_le _⟩ (fun g' q => hE ρ tp tt use bs (adB τ) g' (fun g2 => RdAt ρ tp tt use bs (f use bs (adB τ)) g2 ∧ Off ρ 3 g g2) q.1 (fun g2 a b => ⟨a, q.2.tr b⟩)) ?_
          refine r_aload_n (pc := 37) dX4_readA_37 rfl ?_
          refine r_bipush (pc := 38) (v := 38) dX4_readA_38 (by decide) ?_
          refine r_Vv (pc := 40) (μ' := mX4_emit) dX4_readA_40 nX4_68 iX4_emit vX4_emit kX4_emit rfl rfl (rr (by omega) rfl) rfl ⟨Nat.zero_le _, Nat.zero_le _⟩ (fun g' q => ct_Rd_emit (P' := fun g2 => RdAt ρ tp tt use bs (emB 38 (f use bs (adB τ))) g2 ∧ Off ρ 3 g g2) q.1 (fun g2 a b => ⟨a, q.2.tr b⟩)) ?_
          refine r_iinc1 (pc := 43) dX4_readA_43 rfl (Nat.le_of_ble_eq_true rfl) rfl ?_
          dsimp only [lset]
          refine r_goto (pc := 46) 7 dX4_readA_46 (by decide) ?_
          rw [nI_s, show 50 - (n + 1) + 1 = 50 - n by omega]
          exact ih _ (by omega) hP
  refine aw_P (P' := fun g' => RdAt ρ tp tt use bs σ g' ∧ Off ρ 3 g g') (fun g' e => by subst e; exact ⟨hR, Off.rf _ _ _⟩) ?_
  refine r_aload_n (pc := 0) dX4_readA_0 rfl ?_
  refine r_iload_n (pc := 1) dX4_readA_1 rfl ?_
  refine r_Vv (pc := 2) (μ' := mX4_readB) dX4_readA_2 nX4_71 iX4_readB vX4_readB kX4_readB rfl rfl (rr (by omega) rfl) rfl ⟨Nat.zero_le _, Nat.zero_le _⟩ (fun g' q => hE ρ tp tt use bs σ g' (fun g2 => RdAt ρ tp tt use bs (f use bs σ) g2 ∧ Off ρ 3 g g2) q.1 (fun g2 a b => ⟨a, q.2.tr b⟩)) ?_
  refine r_iconst (pc := 5) (v := 0) dX4_readA_5 (by decide) ?_
  refine r_istore_n (pc := 6) dX4_readA_6 rfl (Nat.le_of_ble_eq_true rfl) rfl ?_
  dsimp only [lset]
  exact L 50 _ (Nat.le_refl _) hP
set_option maxHeartbeats 4000000 in
theorem ct_Rd_readS {D : Nat} {op : Int32} {f : Int32 → List Int32 → RS → RS} (hD : 5 ≤ D) (hE : RdC D mX4_readP [.int op] f) : RdC (D + 1) mX4_readS [.int op] (fun use bs => loopB bs [43, 45] (f use bs)) := by
  intro ρ tp tt use bs σ g P' hR hP
  refine ⟨hR.V, ?_⟩
  refine ct_of (by decide) (fun _ _ => Nat.le_of_ble_eq_true rfl) ?_
  dsimp only [pad, ent]
  have L : ∀ (n : Nat) (τ : RS), n ≤ 50 → (∀ g', RdAt ρ tp tt use bs (chainB bs [43, 45] (f use bs) n τ) g' → Off ρ 3 g g' → P' g') → AW (fun _ => True) (rmd (D + 1) 0 0) mX4_readS 0 0 7 [some (.ref ρ), some (.int op), some (.int (nI (50 - n))), none] [] (fun g' => RdAt ρ tp tt use bs τ g' ∧ Off ρ 3 g g') (fun v g' => v = none ∧ P' g') := by
    intro n
    induction n with
    | zero =>
      intro τ hn hP
      refine r_iload_n (pc := 7) dX4_readS_7 rfl ?_
      refine r_bipush (pc := 8) (v := 50) dX4_readS_8 (by decide) ?_
      refine r_icmp_ge (pc := 10) 62 dX4_readS_10 (by decide) (fun c10 => ?_) (fun c10 => ?_)
      · skip
        refine r_return (pc := 62) dX4_readS_62 rfl ⟨Nat.zero_le _, Nat.zero_le _⟩ (fun gE hg => ?_)
        exact ⟨rfl, hP _ hg.1 hg.2⟩
      · skip
        exact absurd (show (50 : Int32) ≤ nI (50 - 0) by decide) c10
    | succ n ih =>
      intro τ hn hP
      have hT : (nI (50 - (n + 1))).toInt = ((50 - (n + 1) : Nat) : Int) := nI_T (by omega)
      have hno : ¬ (τ.2.1 = true ∧ nxB bs τ ∈ ([43, 45] : List Int32)) → chainB bs [43, 45] (f use bs) (n + 1) τ = τ := fun q => by rw [chainB, if_neg q]
      have hyes : τ.2.1 = true ∧ nxB bs τ ∈ ([43, 45] : List Int32) → chainB bs [43, 45] (f use bs) (n + 1) τ = chainB bs [43, 45] (f use bs) n (emB (nxB bs τ) (f use bs (adB τ))) := fun q => by rw [chainB, if_pos q]
      refine r_iload_n (pc := 7) dX4_readS_7 rfl ?_
      refine r_bipush (pc := 8) (v := 50) dX4_readS_8 (by decide) ?_
      refine r_icmp_ge (pc := 10) 62 dX4_readS_10 (by decide) (fun c10 => ?_) (fun c10 => ?_)
      · skip
        exact absurd (fa_le.mp c10) (by rw [hT, show (50 : Int32).toInt = 50 from rfl]; omega)
      · skip
        refine r_aload_n (pc := 13) dX4_readS_13 rfl ?_
        refine r_bipush (pc := 14) (v := 43) dX4_readS_14 (by decide) ?_
        refine r_Vi (pc := 16) (μ' := mX4_nextIs) dX4_readS_16 nX4_65 iX4_nextIs vX4_nextIs kX4_nextIs rfl rfl (rr (by omega) rfl) rfl ⟨Nat.zero_le _, Nat.zero_le _⟩ (fun g' q => ct_Rd_nextIs q.1 q) ?_
        refine r_if_ne (pc := 19) 31 dX4_readS_19 (by decide) (fun c19 => ?_) (fun c19 => ?_)
        · skip
          have y := isB_op (b2i_n0.mp c19)
          have yl := nx_lt y.2 (by decide)
          rw [hyes ⟨y.1, by rw [y.2]; decide⟩] at hP
          refine r_aload_n (pc := 31) dX4_readS_31 rfl ?_
          refine r_Vi (pc := 32) (μ' := mX4_next) dX4_readS_32 nX4_56 iX4_next vX4_next kX4_next rfl rfl (rr (by omega) rfl) rfl ⟨Nat.zero_le _, Nat.zero_le _⟩ (fun g' q => ct_Rd_next q.1 q) ?_
          refine r_istore_n (pc := 35) dX4_readS_35 rfl (Nat.le_of_ble_eq_true rfl) rfl ?_
          dsimp only [lset]
          refine r_aload_n (pc := 36) dX4_readS_36 rfl ?_
          refine r_dup (pc := 37) dX4_readS_37 rfl ?_
          refine r_getf (pc := 38) (k := 3) dX4_readS_38 hX4 eX4 (by decide) fX4_27 (fun _ q => q.1.o) rfl ?_
          refine r_iconst (pc := 41) (v := 1) dX4_readS_41 (by decide) ?_
          refine r_iadd (pc := 42) dX4_readS_42 ?_
          refine r_putf (pc := 43) (k := 3) (P' := fun g' => RdAt ρ tp tt use bs (adB τ) g' ∧ Off ρ 3 g g') tyX4 dX4_readS_43 hX4 tyX4_ok nmX4 eX4 (by decide) fX4_27 rfl rfl (fun _ _ => rfl) (fun _ _ => rfl) (Nat.le_of_ble_eq_true rfl) (fun _ q => q.1.o) (fun _ q => ⟨by rw [nI_s]; exact q.1.put yl, q.2.set (by omega) (by omega)⟩) ?_
          refine r_aload_n (pc := 46) dX4_readS_46 rfl ?_
          refine r_iload_n (pc := 47) dX4_readS_47 rfl ?_
          refine r_Vv (pc := 48) (μ' := mX4_readP) dX4_readS_48 nX4_77 iX4_readP vX4_readP kX4_readP rfl rfl (rr (by omega) rfl) rfl ⟨Nat.zero_le _, Nat.zero_le _⟩ (fun g' q => hE ρ tp tt use bs (adB τ) g' (fun g2 => RdAt ρ tp tt use bs (f use bs (adB τ)) g2 ∧ Off ρ 3 g g2) q.1 (fun g2 a b => ⟨a, q.2.tr b⟩)) ?_
          refine r_aload_n (pc := 51) dX4_readS_51 rfl ?_
          refine r_iload_n (pc := 52) dX4_readS_52 rfl ?_
          refine r_Vv (pc := 53) (μ' := mX4_emit) dX4_readS_53 nX4_68 iX4_emit vX4_emit kX4_emit rfl rfl (rr (by omega) rfl) rfl ⟨Nat.zero_le _, Nat.zero_le _⟩ (fun g' q => ct_Rd_emit (P' := fun g2 => RdAt ρ tp tt use bs (emB (nxB bs τ) (f use bs (adB τ))) g2 ∧ Off ρ 3 g g2) q.1 (fun g2 a b => ⟨a, q.2.tr b⟩)) ?_
          refine r_iinc1 (pc := 56) dX4_readS_56 rfl (Nat.le_of_ble_eq_true rfl) rfl ?_
          dsimp only [lset]
          refine r_goto (pc := 59) 7 dX4_readS_59 (by decide) ?_
          rw [nI_s, show 50 - (n + 1) + 1 = 50 - n by omega]
          exact aw_dr 3 rfl (ih _ (by omega) hP)
        · skip
          have n19 := isB_no (b2i_0.mp c19)
          refine r_aload_n (pc := 22) dX4_readS_22 rfl ?_
          refine r_bipush (pc := 23) (v := 45) dX4_readS_23 (by decide) ?_
          refine r_Vi (pc := 25) (μ' := mX4_nextIs) dX4_readS_25 nX4_65 iX4_nextIs vX4_nextIs kX4_nextIs rfl rfl (rr (by omega) rfl) rfl ⟨Nat.zero_le _, Nat.zero_le _⟩ (fun g' q => ct_Rd_nextIs q.1 q) ?_
          refine r_if_eq (pc := 28) 62 dX4_readS_28 (by decide) (fun c28 => ?_) (fun c28 => ?_)
          · skip
            have n28 := isB_no (b2i_0.mp c28)
            rw [hno (fun q => by
              have m := q.2
              simp only [List.mem_cons, List.not_mem_nil, or_false] at m
              rcases m with m | m
              · exact n19 ⟨q.1, m⟩
              · exact n28 ⟨q.1, m⟩)] at hP
            refine r_return (pc := 62) dX4_readS_62 rfl ⟨Nat.zero_le _, Nat.zero_le _⟩ (fun gE hg => ?_)
            exact ⟨rfl, hP _ hg.1 hg.2⟩
          · skip
            have y := isB_op (b2i_n0.mp c28)
            have yl := nx_lt y.2 (by decide)
            rw [hyes ⟨y.1, by rw [y.2]; decide⟩] at hP
            refine r_aload_n (pc := 31) dX4_readS_31 rfl ?_
            refine r_Vi (pc := 32) (μ' := mX4_next) dX4_readS_32 nX4_56 iX4_next vX4_next kX4_next rfl rfl (rr (by omega) rfl) rfl ⟨Nat.zero_le _, Nat.zero_le _⟩ (fun g' q => ct_Rd_next q.1 q) ?_
            refine r_istore_n (pc := 35) dX4_readS_35 rfl (Nat.le_of_ble_eq_true rfl) rfl ?_
            dsimp only [lset]
            refine r_aload_n (pc := 36) dX4_readS_36 rfl ?_
            refine r_dup (pc := 37) dX4_readS_37 rfl ?_
            refine r_getf (pc := 38) (k := 3) dX4_readS_38 hX4 eX4 (by decide) fX4_27 (fun _ q => q.1.o) rfl ?_
            refine r_iconst (pc := 41) (v := 1) dX4_readS_41 (by decide) ?_
            refine r_iadd (pc := 42) dX4_readS_42 ?_
            refine r_putf (pc := 43) (k := 3) (P' := fun g' => RdAt ρ tp tt use bs (adB τ) g' ∧ Off ρ 3 g g') tyX4 dX4_readS_43 hX4 tyX4_ok nmX4 eX4 (by decide) fX4_27 rfl rfl (fun _ _ => rfl) (fun _ _ => rfl) (Nat.le_of_ble_eq_true rfl) (fun _ q => q.1.o) (fun _ q => ⟨by rw [nI_s]; exact q.1.put yl, q.2.set (by omega) (by omega)⟩) ?_
            refine r_aload_n (pc := 46) dX4_readS_46 rfl ?_
            refine r_iload_n (pc := 47) dX4_readS_47 rfl ?_
            refine r_Vv (pc := 48) (μ' := mX4_readP) dX4_readS_48 nX4_77 iX4_readP vX4_readP kX4_readP rfl rfl (rr (by omega) rfl) rfl ⟨Nat.zero_le _, Nat.zero_le _⟩ (fun g' q => hE ρ tp tt use bs (adB τ) g' (fun g2 => RdAt ρ tp tt use bs (f use bs (adB τ)) g2 ∧ Off ρ 3 g g2) q.1 (fun g2 a b => ⟨a, q.2.tr b⟩)) ?_
            refine r_aload_n (pc := 51) dX4_readS_51 rfl ?_
            refine r_iload_n (pc := 52) dX4_readS_52 rfl ?_
            refine r_Vv (pc := 53) (μ' := mX4_emit) dX4_readS_53 nX4_68 iX4_emit vX4_emit kX4_emit rfl rfl (rr (by omega) rfl) rfl ⟨Nat.zero_le _, Nat.zero_le _⟩ (fun g' q => ct_Rd_emit (P' := fun g2 => RdAt ρ tp tt use bs (emB (nxB bs τ) (f use bs (adB τ))) g2 ∧ Off ρ 3 g g2) q.1 (fun g2 a b => ⟨a, q.2.tr b⟩)) ?_
            refine r_iinc1 (pc := 56) dX4_readS_56 rfl (Nat.le_of_ble_eq_true rfl) rfl ?_
            dsimp only [lset]
            refine r_goto (pc := 59) 7 dX4_readS_59 (by decide) ?_
            rw [nI_s, show 50 - (n + 1) + 1 = 50 - n by omega]
            exact aw_dr 3 rfl (ih _ (by omega) hP)
  refine aw_P (P' := fun g' => RdAt ρ tp tt use bs σ g' ∧ Off ρ 3 g g') (fun g' e => by subst e; exact ⟨hR, Off.rf _ _ _⟩) ?_
  refine r_aload_n (pc := 0) dX4_readS_0 rfl ?_
  refine r_iload_n (pc := 1) dX4_readS_1 rfl ?_
  refine r_Vv (pc := 2) (μ' := mX4_readP) dX4_readS_2 nX4_77 iX4_readP vX4_readP kX4_readP rfl rfl (rr (by omega) rfl) rfl ⟨Nat.zero_le _, Nat.zero_le _⟩ (fun g' q => hE ρ tp tt use bs σ g' (fun g2 => RdAt ρ tp tt use bs (f use bs σ) g2 ∧ Off ρ 3 g g2) q.1 (fun g2 a b => ⟨a, q.2.tr b⟩)) ?_
  refine r_iconst (pc := 5) (v := 0) dX4_readS_5 (by decide) ?_
  refine r_istore_n (pc := 6) dX4_readS_6 rfl (Nat.le_of_ble_eq_true rfl) rfl ?_
  dsimp only [lset]
  exact L 50 _ (Nat.le_refl _) hP
set_option maxHeartbeats 4000000 in
theorem ct_Rd_readP {D : Nat} {op : Int32} {f : Int32 → List Int32 → RS → RS} (hD : 5 ≤ D) (hE : RdC D mX4_readQ [.int op] f) : RdC (D + 1) mX4_readP [.int op] (fun use bs => loopB bs [42, 47, 37] (f use bs)) := by
  intro ρ tp tt use bs σ g P' hR hP
  refine ⟨hR.V, ?_⟩
  refine ct_of (by decide) (fun _ _ => Nat.le_of_ble_eq_true rfl) ?_
  dsimp only [pad, ent]
  have L : ∀ (n : Nat) (τ : RS), n ≤ 50 → (∀ g', RdAt ρ tp tt use bs (chainB bs [42, 47, 37] (f use bs) n τ) g' → Off ρ 3 g g' → P' g') → AW (fun _ => True) (rmd (D + 1) 0 0) mX4_readP 0 0 7 [some (.ref ρ), some (.int op), some (.int (nI (50 - n))), none] [] (fun g' => RdAt ρ tp tt use bs τ g' ∧ Off ρ 3 g g') (fun v g' => v = none ∧ P' g') := by
    intro n
    induction n with
    | zero =>
      intro τ hn hP
      refine r_iload_n (pc := 7) dX4_readP_7 rfl ?_
      refine r_bipush (pc := 8) (v := 50) dX4_readP_8 (by decide) ?_
      refine r_icmp_ge (pc := 10) 71 dX4_readP_10 (by decide) (fun c10 => ?_) (fun c10 => ?_)
      · skip
        refine r_return (pc := 71) dX4_readP_71 rfl ⟨Nat.zero_le _, Nat.zero_le _⟩ (fun gE hg => ?_)
        exact ⟨rfl, hP _ hg.1 hg.2⟩
      · skip
        exact absurd (show (50 : Int32) ≤ nI (50 - 0) by decide) c10
    | succ n ih =>
      intro τ hn hP
      have hT : (nI (50 - (n + 1))).toInt = ((50 - (n + 1) : Nat) : Int) := nI_T (by omega)
      have hno : ¬ (τ.2.1 = true ∧ nxB bs τ ∈ ([42, 47, 37] : List Int32)) → chainB bs [42, 47, 37] (f use bs) (n + 1) τ = τ := fun q => by rw [chainB, if_neg q]
      have hyes : τ.2.1 = true ∧ nxB bs τ ∈ ([42, 47, 37] : List Int32) → chainB bs [42, 47, 37] (f use bs) (n + 1) τ = chainB bs [42, 47, 37] (f use bs) n (emB (nxB bs τ) (f use bs (adB τ))) := fun q => by rw [chainB, if_pos q]
      refine r_iload_n (pc := 7) dX4_readP_7 rfl ?_
      refine r_bipush (pc := 8) (v := 50) dX4_readP_8 (by decide) ?_
      refine r_icmp_ge (pc := 10) 71 dX4_readP_10 (by decide) (fun c10 => ?_) (fun c10 => ?_)
      · skip
        exact absurd (fa_le.mp c10) (by rw [hT, show (50 : Int32).toInt = 50 from rfl]; omega)
      · skip
        refine r_aload_n (pc := 13) dX4_readP_13 rfl ?_
        refine r_bipush (pc := 14) (v := 42) dX4_readP_14 (by decide) ?_
        refine r_Vi (pc := 16) (μ' := mX4_nextIs) dX4_readP_16 nX4_65 iX4_nextIs vX4_nextIs kX4_nextIs rfl rfl (rr (by omega) rfl) rfl ⟨Nat.zero_le _, Nat.zero_le _⟩ (fun g' q => ct_Rd_nextIs q.1 q) ?_
        refine r_if_ne (pc := 19) 40 dX4_readP_19 (by decide) (fun c19 => ?_) (fun c19 => ?_)
        · skip
          have y := isB_op (b2i_n0.mp c19)
          have yl := nx_lt y.2 (by decide)
          rw [hyes ⟨y.1, by rw [y.2]; decide⟩] at hP
          refine r_aload_n (pc := 40) dX4_readP_40 rfl ?_
          refine r_Vi (pc := 41) (μ' := mX4_next) dX4_readP_41 nX4_56 iX4_next vX4_next kX4_next rfl rfl (rr (by omega) rfl) rfl ⟨Nat.zero_le _, Nat.zero_le _⟩ (fun g' q => ct_Rd_next q.1 q) ?_
          refine r_istore_n (pc := 44) dX4_readP_44 rfl (Nat.le_of_ble_eq_true rfl) rfl ?_
          dsimp only [lset]
          refine r_aload_n (pc := 45) dX4_readP_45 rfl ?_
          refine r_dup (pc := 46) dX4_readP_46 rfl ?_
          refine r_getf (pc := 47) (k := 3) dX4_readP_47 hX4 eX4 (by decide) fX4_27 (fun _ q => q.1.o) rfl ?_
          refine r_iconst (pc := 50) (v := 1) dX4_readP_50 (by decide) ?_
          refine r_iadd (pc := 51) dX4_readP_51 ?_
          refine r_putf (pc := 52) (k := 3) (P' := fun g' => RdAt ρ tp tt use bs (adB τ) g' ∧ Off ρ 3 g g') tyX4 dX4_readP_52 hX4 tyX4_ok nmX4 eX4 (by decide) fX4_27 rfl rfl (fun _ _ => rfl) (fun _ _ => rfl) (Nat.le_of_ble_eq_true rfl) (fun _ q => q.1.o) (fun _ q => ⟨by rw [nI_s]; exact q.1.put yl, q.2.set (by omega) (by omega)⟩) ?_
          refine r_aload_n (pc := 55) dX4_readP_55 rfl ?_
          refine r_iload_n (pc := 56) dX4_readP_56 rfl ?_
          refine r_Vv (pc := 57) (μ' := mX4_readQ) dX4_readP_57 nX4_80 iX4_readQ vX4_readQ kX4_readQ rfl rfl (rr (by omega) rfl) rfl ⟨Nat.zero_le _, Nat.zero_le _⟩ (fun g' q => hE ρ tp tt use bs (adB τ) g' (fun g2 => RdAt ρ tp tt use bs (f use bs (adB τ)) g2 ∧ Off ρ 3 g g2) q.1 (fun g2 a b => ⟨a, q.2.tr b⟩)) ?_
          refine r_aload_n (pc := 60) dX4_readP_60 rfl ?_
          refine r_iload_n (pc := 61) dX4_readP_61 rfl ?_
          refine r_Vv (pc := 62) (μ' := mX4_emit) dX4_readP_62 nX4_68 iX4_emit vX4_emit kX4_emit rfl rfl (rr (by omega) rfl) rfl ⟨Nat.zero_le _, Nat.zero_le _⟩ (fun g' q => ct_Rd_emit (P' := fun g2 => RdAt ρ tp tt use bs (emB (nxB bs τ) (f use bs (adB τ))) g2 ∧ Off ρ 3 g g2) q.1 (fun g2 a b => ⟨a, q.2.tr b⟩)) ?_
          refine r_iinc1 (pc := 65) dX4_readP_65 rfl (Nat.le_of_ble_eq_true rfl) rfl ?_
          dsimp only [lset]
          refine r_goto (pc := 68) 7 dX4_readP_68 (by decide) ?_
          rw [nI_s, show 50 - (n + 1) + 1 = 50 - n by omega]
          exact aw_dr 3 rfl (ih _ (by omega) hP)
        · skip
          have n19 := isB_no (b2i_0.mp c19)
          refine r_aload_n (pc := 22) dX4_readP_22 rfl ?_
          refine r_bipush (pc := 23) (v := 47) dX4_readP_23 (by decide) ?_
          refine r_Vi (pc := 25) (μ' := mX4_nextIs) dX4_readP_25 nX4_65 iX4_nextIs vX4_nextIs kX4_nextIs rfl rfl (rr (by omega) rfl) rfl ⟨Nat.zero_le _, Nat.zero_le _⟩ (fun g' q => ct_Rd_nextIs q.1 q) ?_
          refine r_if_ne (pc := 28) 40 dX4_readP_28 (by decide) (fun c28 => ?_) (fun c28 => ?_)
          · skip
            have y := isB_op (b2i_n0.mp c28)
            have yl := nx_lt y.2 (by decide)
            rw [hyes ⟨y.1, by rw [y.2]; decide⟩] at hP
            refine r_aload_n (pc := 40) dX4_readP_40 rfl ?_
            refine r_Vi (pc := 41) (μ' := mX4_next) dX4_readP_41 nX4_56 iX4_next vX4_next kX4_next rfl rfl (rr (by omega) rfl) rfl ⟨Nat.zero_le _, Nat.zero_le _⟩ (fun g' q => ct_Rd_next q.1 q) ?_
            refine r_istore_n (pc := 44) dX4_readP_44 rfl (Nat.le_of_ble_eq_true rfl) rfl ?_
            dsimp only [lset]
            refine r_aload_n (pc := 45) dX4_readP_45 rfl ?_
            refine r_dup (pc := 46) dX4_readP_46 rfl ?_
            refine r_getf (pc := 47) (k := 3) dX4_readP_47 hX4 eX4 (by decide) fX4_27 (fun _ q => q.1.o) rfl ?_
            refine r_iconst (pc := 50) (v := 1) dX4_readP_50 (by decide) ?_
            refine r_iadd (pc := 51) dX4_readP_51 ?_
            refine r_putf (pc := 52) (k := 3) (P' := fun g' => RdAt ρ tp tt use bs (adB τ) g' ∧ Off ρ 3 g g') tyX4 dX4_readP_52 hX4 tyX4_ok nmX4 eX4 (by decide) fX4_27 rfl rfl (fun _ _ => rfl) (fun _ _ => rfl) (Nat.le_of_ble_eq_true rfl) (fun _ q => q.1.o) (fun _ q => ⟨by rw [nI_s]; exact q.1.put yl, q.2.set (by omega) (by omega)⟩) ?_
            refine r_aload_n (pc := 55) dX4_readP_55 rfl ?_
            refine r_iload_n (pc := 56) dX4_readP_56 rfl ?_
            refine r_Vv (pc := 57) (μ' := mX4_readQ) dX4_readP_57 nX4_80 iX4_readQ vX4_readQ kX4_readQ rfl rfl (rr (by omega) rfl) rfl ⟨Nat.zero_le _, Nat.zero_le _⟩ (fun g' q => hE ρ tp tt use bs (adB τ) g' (fun g2 => RdAt ρ tp tt use bs (f use bs (adB τ)) g2 ∧ Off ρ 3 g g2) q.1 (fun g2 a b => ⟨a, q.2.tr b⟩)) ?_
            refine r_aload_n (pc := 60) dX4_readP_60 rfl ?_
            refine r_iload_n (pc := 61) dX4_readP_61 rfl ?_
            refine r_Vv (pc := 62) (μ' := mX4_emit) dX4_readP_62 nX4_68 iX4_emit vX4_emit kX4_emit rfl rfl (rr (by omega) rfl) rfl ⟨Nat.zero_le _, Nat.zero_le _⟩ (fun g' q => ct_Rd_emit (P' := fun g2 => RdAt ρ tp tt use bs (emB (nxB bs τ) (f use bs (adB τ))) g2 ∧ Off ρ 3 g g2) q.1 (fun g2 a b => ⟨a, q.2.tr b⟩)) ?_
            refine r_iinc1 (pc := 65) dX4_readP_65 rfl (Nat.le_of_ble_eq_true rfl) rfl ?_
            dsimp only [lset]
            refine r_goto (pc := 68) 7 dX4_readP_68 (by decide) ?_
            rw [nI_s, show 50 - (n + 1) + 1 = 50 - n by omega]
            exact aw_dr 3 rfl (ih _ (by omega) hP)
          · skip
            have n28 := isB_no (b2i_0.mp c28)
            refine r_aload_n (pc := 31) dX4_readP_31 rfl ?_
            refine r_bipush (pc := 32) (v := 37) dX4_readP_32 (by decide) ?_
            refine r_Vi (pc := 34) (μ' := mX4_nextIs) dX4_readP_34 nX4_65 iX4_nextIs vX4_nextIs kX4_nextIs rfl rfl (rr (by omega) rfl) rfl ⟨Nat.zero_le _, Nat.zero_le _⟩ (fun g' q => ct_Rd_nextIs q.1 q) ?_
            refine r_if_eq (pc := 37) 71 dX4_readP_37 (by decide) (fun c37 => ?_) (fun c37 => ?_)
            · skip
              have n37 := isB_no (b2i_0.mp c37)
              rw [hno (fun q => by
                have m := q.2
                simp only [List.mem_cons, List.not_mem_nil, or_false] at m
                rcases m with m | m | m
                · exact n19 ⟨q.1, m⟩
                · exact n28 ⟨q.1, m⟩
                · exact n37 ⟨q.1, m⟩)] at hP
              refine r_return (pc := 71) dX4_readP_71 rfl ⟨Nat.zero_le _, Nat.zero_le _⟩ (fun gE hg => ?_)
              exact ⟨rfl, hP _ hg.1 hg.2⟩
            · skip
              have y := isB_op (b2i_n0.mp c37)
              have yl := nx_lt y.2 (by decide)
              rw [hyes ⟨y.1, by rw [y.2]; decide⟩] at hP
              refine r_aload_n (pc := 40) dX4_readP_40 rfl ?_
              refine r_Vi (pc := 41) (μ' := mX4_next) dX4_readP_41 nX4_56 iX4_next vX4_next kX4_next rfl rfl (rr (by omega) rfl) rfl ⟨Nat.zero_le _, Nat.zero_le _⟩ (fun g' q => ct_Rd_next q.1 q) ?_
              refine r_istore_n (pc := 44) dX4_readP_44 rfl (Nat.le_of_ble_eq_true rfl) rfl ?_
              dsimp only [lset]
              refine r_aload_n (pc := 45) dX4_readP_45 rfl ?_
              refine r_dup (pc := 46) dX4_readP_46 rfl ?_
              refine r_getf (pc := 47) (k := 3) dX4_readP_47 hX4 eX4 (by decide) fX4_27 (fun _ q => q.1.o) rfl ?_
              refine r_iconst (pc := 50) (v := 1) dX4_readP_50 (by decide) ?_
              refine r_iadd (pc := 51) dX4_readP_51 ?_
              refine r_putf (pc := 52) (k := 3) (P' := fun g' => RdAt ρ tp tt use bs (adB τ) g' ∧ Off ρ 3 g g') tyX4 dX4_readP_52 hX4 tyX4_ok nmX4 eX4 (by decide) fX4_27 rfl rfl (fun _ _ => rfl) (fun _ _ => rfl) (Nat.le_of_ble_eq_true rfl) (fun _ q => q.1.o) (fun _ q => ⟨by rw [nI_s]; exact q.1.put yl, q.2.set (by omega) (by omega)⟩) ?_
              refine r_aload_n (pc := 55) dX4_readP_55 rfl ?_
              refine r_iload_n (pc := 56) dX4_readP_56 rfl ?_
              refine r_Vv (pc := 57) (μ' := mX4_readQ) dX4_readP_57 nX4_80 iX4_readQ vX4_readQ kX4_readQ rfl rfl (rr (by omega) rfl) rfl ⟨Nat.zero_le _, Nat.zero_le _⟩ (fun g' q => hE ρ tp tt use bs (adB τ) g' (fun g2 => RdAt ρ tp tt use bs (f use bs (adB τ)) g2 ∧ Off ρ 3 g g2) q.1 (fun g2 a b => ⟨a, q.2.tr b⟩)) ?_
              refine r_aload_n (pc := 60) dX4_readP_60 rfl ?_
              refine r_iload_n (pc := 61) dX4_readP_61 rfl ?_
              refine r_Vv (pc := 62) (μ' := mX4_emit) dX4_readP_62 nX4_68 iX4_emit vX4_emit kX4_emit rfl rfl (rr (by omega) rfl) rfl ⟨Nat.zero_le _, Nat.zero_le _⟩ (fun g' q => ct_Rd_emit (P' := fun g2 => RdAt ρ tp tt use bs (emB (nxB bs τ) (f use bs (adB τ))) g2 ∧ Off ρ 3 g g2) q.1 (fun g2 a b => ⟨a, q.2.tr b⟩)) ?_
              refine r_iinc1 (pc := 65) dX4_readP_65 rfl (Nat.le_of_ble_eq_true rfl) rfl ?_
              dsimp only [lset]
              refine r_goto (pc := 68) 7 dX4_readP_68 (by decide) ?_
              rw [nI_s, show 50 - (n + 1) + 1 = 50 - n by omega]
              exact aw_dr 3 rfl (ih _ (by omega) hP)
  refine aw_P (P' := fun g' => RdAt ρ tp tt use bs σ g' ∧ Off ρ 3 g g') (fun g' e => by subst e; exact ⟨hR, Off.rf _ _ _⟩) ?_
  refine r_aload_n (pc := 0) dX4_readP_0 rfl ?_
  refine r_iload_n (pc := 1) dX4_readP_1 rfl ?_
  refine r_Vv (pc := 2) (μ' := mX4_readQ) dX4_readP_2 nX4_80 iX4_readQ vX4_readQ kX4_readQ rfl rfl (rr (by omega) rfl) rfl ⟨Nat.zero_le _, Nat.zero_le _⟩ (fun g' q => hE ρ tp tt use bs σ g' (fun g2 => RdAt ρ tp tt use bs (f use bs σ) g2 ∧ Off ρ 3 g g2) q.1 (fun g2 a b => ⟨a, q.2.tr b⟩)) ?_
  refine r_iconst (pc := 5) (v := 0) dX4_readP_5 (by decide) ?_
  refine r_istore_n (pc := 6) dX4_readP_6 rfl (Nat.le_of_ble_eq_true rfl) rfl ?_
  dsimp only [lset]
  exact L 50 _ (Nat.le_refl _) hP
