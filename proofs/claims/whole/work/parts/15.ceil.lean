/-! THE CEILING (OneGoCeiling$Ceiling) -/
def CeilI (c : Nat) (ro st mi he le wh si ca : Int32) (wn wt : List Int32) (g : AH) : Prop := c < g.1 ∧ g.2 c = .inr (.inr (0, [.ref (c + 1), .ref (c + 3), .int ro, .int st, .int mi, .int he, .int le, .int wh, .int si, .int ca])) ∧ RowAt (c + 1) 36 wn g ∧ RowAt (c + 3) 36 wt g
section CeilL
variable {c : Nat} {ro st mi he le wh si ca ro' st' mi' he' le' wh' si' ca' : Int32} {wn wt wn' wt' : List Int32} {h g : AH} {P' : AH → Prop}
theorem CeilI.o (q : CeilI c ro st mi he le wh si ca wn wt g) : c < g.1 ∧ g.2 c = .inr (.inr (0, [.ref (c + 1), .ref (c + 3), .int ro, .int st, .int mi, .int he, .int le, .int wh, .int si, .int ca])) := ⟨q.1, q.2.1⟩
theorem CeilI.V (q : CeilI c ro st mi he le wh si ca wn wt g) : ∃ (fs : List Value) (T : u_T) (N : Nat), c < g.1 ∧ g.2 c = .inr (.inr (0, fs)) ∧ vwCl[0]? = some (RX0, T, N) := ⟨_, _, _, q.1, q.2.1, rfl⟩
theorem CeilI.off (q : CeilI c ro st mi he le wh si ca wn wt h) {lo w : Nat} (o : Off lo w h g) (hd : c + 5 ≤ lo ∨ lo + w ≤ c) : CeilI c ro st mi he le wh si ca wn wt g :=
  ⟨by rw [o.1]; exact q.1, by rw [o.2 c (by omega)]; exact q.2.1, q.2.2.1.off o (by omega), q.2.2.2.off o (by omega)⟩
theorem CeilI.setN (q : CeilI c ro st mi he le wh si ca wn wt h) (hR : RowAt (c + 1) 36 wn' g) (o : Off (c + 1) 2 h g) : CeilI c ro st mi he le wh si ca wn' wt g :=
  ⟨by rw [o.1]; exact q.1, by rw [o.2 c (by omega)]; exact q.2.1, hR, q.2.2.2.off o (by omega)⟩
theorem CeilI.setT (q : CeilI c ro st mi he le wh si ca wn wt h) (hR : RowAt (c + 3) 36 wt' g) (o : Off (c + 3) 2 h g) : CeilI c ro st mi he le wh si ca wn wt' g :=
  ⟨by rw [o.1]; exact q.1, by rw [o.2 c (by omega)]; exact q.2.1, q.2.2.1.off o (by omega), hR⟩
theorem CeilI.put (q : CeilI c ro st mi he le wh si ca wn wt g) : CeilI c ro' st' mi' he' le' wh' si' ca' wn wt (hset g c (.inr (.inr (0, [.ref (c + 1), .ref (c + 3), .int ro', .int st', .int mi', .int he', .int le', .int wh', .int si', .int ca'])))) :=
  ⟨q.1, hset_same _ _ _, q.2.2.1.off Off.one (by omega), q.2.2.2.off Off.one (by omega)⟩
set_option maxHeartbeats 4000000 in
theorem ct_Ceil_rows (hR : CeilI c ro st mi he le wh si ca wn wt g) (hP : P' g) : CV 1 0 0 mX0_rows c [] g (fun v g' => v = some (.int (ro)) ∧ P' g') := by
  refine ⟨hR.V, ?_⟩
  refine ct_of (by decide) (fun _ _ => Nat.le_of_ble_eq_true rfl) ?_
  dsimp only [pad, ent]
  refine aw_P (P' := fun g' => CeilI c ro st mi he le wh si ca wn wt g' ∧ g' = g) (fun g' e => by subst e; exact ⟨hR, rfl⟩) ?_
  refine r_aload_n (pc := 0) dX0_rows_0 rfl ?_
  refine r_getf (pc := 1) (k := 2) dX0_rows_1 hX0 eX0 (by decide) fX0_21 (fun _ q => q.1.o) rfl ?_
  refine r_ireturn (pc := 4) (ty := .int) dX0_rows_4 rfl rfl ⟨Nat.zero_le _, Nat.zero_le _⟩ (fun gE hg => ?_)
  exact ⟨rfl, by rw [hg.2]; exact hP⟩
set_option maxHeartbeats 4000000 in
theorem ct_Ceil_strips (hR : CeilI c ro st mi he le wh si ca wn wt g) (hP : P' g) : CV 1 0 0 mX0_strips c [] g (fun v g' => v = some (.int (st)) ∧ P' g') := by
  refine ⟨hR.V, ?_⟩
  refine ct_of (by decide) (fun _ _ => Nat.le_of_ble_eq_true rfl) ?_
  dsimp only [pad, ent]
  refine aw_P (P' := fun g' => CeilI c ro st mi he le wh si ca wn wt g' ∧ g' = g) (fun g' e => by subst e; exact ⟨hR, rfl⟩) ?_
  refine r_aload_n (pc := 0) dX0_strips_0 rfl ?_
  refine r_getf (pc := 1) (k := 3) dX0_strips_1 hX0 eX0 (by decide) fX0_25 (fun _ q => q.1.o) rfl ?_
  refine r_ireturn (pc := 4) (ty := .int) dX0_strips_4 rfl rfl ⟨Nat.zero_le _, Nat.zero_le _⟩ (fun gE hg => ?_)
  exact ⟨rfl, by rw [hg.2]; exact hP⟩
set_option maxHeartbeats 4000000 in
theorem ct_Ceil_minute (hR : CeilI c ro st mi he le wh si ca wn wt g) (hP : P' g) : CV 1 0 0 mX0_minute c [] g (fun v g' => v = some (.int (mi)) ∧ P' g') := by
  refine ⟨hR.V, ?_⟩
  refine ct_of (by decide) (fun _ _ => Nat.le_of_ble_eq_true rfl) ?_
  dsimp only [pad, ent]
  refine aw_P (P' := fun g' => CeilI c ro st mi he le wh si ca wn wt g' ∧ g' = g) (fun g' e => by subst e; exact ⟨hR, rfl⟩) ?_
  refine r_aload_n (pc := 0) dX0_minute_0 rfl ?_
  refine r_getf (pc := 1) (k := 4) dX0_minute_1 hX0 eX0 (by decide) fX0_28 (fun _ q => q.1.o) rfl ?_
  refine r_ireturn (pc := 4) (ty := .int) dX0_minute_4 rfl rfl ⟨Nat.zero_le _, Nat.zero_le _⟩ (fun gE hg => ?_)
  exact ⟨rfl, by rw [hg.2]; exact hP⟩
set_option maxHeartbeats 4000000 in
theorem ct_Ceil_heat (hR : CeilI c ro st mi he le wh si ca wn wt g) (hP : P' g) : CV 1 0 0 mX0_heat c [] g (fun v g' => v = some (.int (he)) ∧ P' g') := by
  refine ⟨hR.V, ?_⟩
  refine ct_of (by decide) (fun _ _ => Nat.le_of_ble_eq_true rfl) ?_
  dsimp only [pad, ent]
  refine aw_P (P' := fun g' => CeilI c ro st mi he le wh si ca wn wt g' ∧ g' = g) (fun g' e => by subst e; exact ⟨hR, rfl⟩) ?_
  refine r_aload_n (pc := 0) dX0_heat_0 rfl ?_
  refine r_getf (pc := 1) (k := 5) dX0_heat_1 hX0 eX0 (by decide) fX0_31 (fun _ q => q.1.o) rfl ?_
  refine r_ireturn (pc := 4) (ty := .int) dX0_heat_4 rfl rfl ⟨Nat.zero_le _, Nat.zero_le _⟩ (fun gE hg => ?_)
  exact ⟨rfl, by rw [hg.2]; exact hP⟩
set_option maxHeartbeats 4000000 in
theorem ct_Ceil_left (hR : CeilI c ro st mi he le wh si ca wn wt g) (hP : P' g) : CV 1 0 0 mX0_left c [] g (fun v g' => v = some (.int (le)) ∧ P' g') := by
  refine ⟨hR.V, ?_⟩
  refine ct_of (by decide) (fun _ _ => Nat.le_of_ble_eq_true rfl) ?_
  dsimp only [pad, ent]
  refine aw_P (P' := fun g' => CeilI c ro st mi he le wh si ca wn wt g' ∧ g' = g) (fun g' e => by subst e; exact ⟨hR, rfl⟩) ?_
  refine r_aload_n (pc := 0) dX0_left_0 rfl ?_
  refine r_getf (pc := 1) (k := 6) dX0_left_1 hX0 eX0 (by decide) fX0_34 (fun _ q => q.1.o) rfl ?_
  refine r_ireturn (pc := 4) (ty := .int) dX0_left_4 rfl rfl ⟨Nat.zero_le _, Nat.zero_le _⟩ (fun gE hg => ?_)
  exact ⟨rfl, by rw [hg.2]; exact hP⟩
set_option maxHeartbeats 4000000 in
theorem ct_Ceil_canWhite (hR : CeilI c ro st mi he le wh si ca wn wt g) (hP : P' g) : CV 1 0 0 mX0_canWhite c [] g (fun v g' => v = some (.int (wh)) ∧ P' g') := by
  refine ⟨hR.V, ?_⟩
  refine ct_of (by decide) (fun _ _ => Nat.le_of_ble_eq_true rfl) ?_
  dsimp only [pad, ent]
  refine aw_P (P' := fun g' => CeilI c ro st mi he le wh si ca wn wt g' ∧ g' = g) (fun g' e => by subst e; exact ⟨hR, rfl⟩) ?_
  refine r_aload_n (pc := 0) dX0_canWhite_0 rfl ?_
  refine r_getf (pc := 1) (k := 7) dX0_canWhite_1 hX0 eX0 (by decide) fX0_37 (fun _ q => q.1.o) rfl ?_
  refine r_ireturn (pc := 4) (ty := .int) dX0_canWhite_4 rfl rfl ⟨Nat.zero_le _, Nat.zero_le _⟩ (fun gE hg => ?_)
  exact ⟨rfl, by rw [hg.2]; exact hP⟩
set_option maxHeartbeats 4000000 in
theorem ct_Ceil_canSize (hR : CeilI c ro st mi he le wh si ca wn wt g) (hP : P' g) : CV 1 0 0 mX0_canSize c [] g (fun v g' => v = some (.int (si)) ∧ P' g') := by
  refine ⟨hR.V, ?_⟩
  refine ct_of (by decide) (fun _ _ => Nat.le_of_ble_eq_true rfl) ?_
  dsimp only [pad, ent]
  refine aw_P (P' := fun g' => CeilI c ro st mi he le wh si ca wn wt g' ∧ g' = g) (fun g' e => by subst e; exact ⟨hR, rfl⟩) ?_
  refine r_aload_n (pc := 0) dX0_canSize_0 rfl ?_
  refine r_getf (pc := 1) (k := 8) dX0_canSize_1 hX0 eX0 (by decide) fX0_40 (fun _ q => q.1.o) rfl ?_
  refine r_ireturn (pc := 4) (ty := .int) dX0_canSize_4 rfl rfl ⟨Nat.zero_le _, Nat.zero_le _⟩ (fun gE hg => ?_)
  exact ⟨rfl, by rw [hg.2]; exact hP⟩
set_option maxHeartbeats 4000000 in
theorem ct_Ceil_cansBegun (hR : CeilI c ro st mi he le wh si ca wn wt g) (hP : P' g) : CV 1 0 0 mX0_cansBegun c [] g (fun v g' => v = some (.int (ca)) ∧ P' g') := by
  refine ⟨hR.V, ?_⟩
  refine ct_of (by decide) (fun _ _ => Nat.le_of_ble_eq_true rfl) ?_
  dsimp only [pad, ent]
  refine aw_P (P' := fun g' => CeilI c ro st mi he le wh si ca wn wt g' ∧ g' = g) (fun g' e => by subst e; exact ⟨hR, rfl⟩) ?_
  refine r_aload_n (pc := 0) dX0_cansBegun_0 rfl ?_
  refine r_getf (pc := 1) (k := 9) dX0_cansBegun_1 hX0 eX0 (by decide) fX0_43 (fun _ q => q.1.o) rfl ?_
  refine r_ireturn (pc := 4) (ty := .int) dX0_cansBegun_4 rfl rfl ⟨Nat.zero_le _, Nat.zero_le _⟩ (fun gE hg => ?_)
  exact ⟨rfl, by rw [hg.2]; exact hP⟩
set_option maxHeartbeats 4000000 in
theorem ct_Ceil_cells (hR : CeilI c ro st mi he le wh si ca wn wt g) (hP : P' g) : CV 2 0 0 mX0_cells c [] g (fun v g' => v = some (.int (nI wn.length)) ∧ P' g') := by
  refine ⟨hR.V, ?_⟩
  refine ct_of (by decide) (fun _ _ => Nat.le_of_ble_eq_true rfl) ?_
  dsimp only [pad, ent]
  refine aw_P (P' := fun g' => CeilI c ro st mi he le wh si ca wn wt g' ∧ g' = g) (fun g' e => by subst e; exact ⟨hR, rfl⟩) ?_
  refine r_aload_n (pc := 0) dX0_cells_0 rfl ?_
  refine r_getf (pc := 1) (k := 0) dX0_cells_1 hX0 eX0 (by decide) fX0_14 (fun _ q => q.1.o) rfl ?_
  refine r_Vi (pc := 4) (μ' := mX5_length) dX0_cells_4 nX0_50 iX5_length vX5_length kX5_length rfl rfl (rr (by decide) rfl) rfl ⟨Nat.zero_le _, Nat.zero_le _⟩ (fun g' q => ct_Row_length q.1.2.2.1 q) ?_
  refine r_ireturn (pc := 7) (ty := .int) dX0_cells_7 rfl rfl ⟨Nat.zero_le _, Nat.zero_le _⟩ (fun gE hg => ?_)
  exact ⟨rfl, by rw [hg.2]; exact hP⟩
set_option maxHeartbeats 4000000 in
theorem ct_Ceil_isCell {i : Int32} (hR : CeilI c ro st mi he le wh si ca wn wt g) (hP : P' g) : CV 2 0 0 mX0_isCell c [.int i] g (fun v g' => v = some (.int (b2i (hasL wn i))) ∧ P' g') := by
  refine ⟨hR.V, ?_⟩
  refine ct_of (by decide) (fun _ _ => Nat.le_of_ble_eq_true rfl) ?_
  dsimp only [pad, ent]
  refine aw_P (P' := fun g' => CeilI c ro st mi he le wh si ca wn wt g' ∧ g' = g) (fun g' e => by subst e; exact ⟨hR, rfl⟩) ?_
  refine r_aload_n (pc := 0) dX0_isCell_0 rfl ?_
  refine r_getf (pc := 1) (k := 0) dX0_isCell_1 hX0 eX0 (by decide) fX0_14 (fun _ q => q.1.o) rfl ?_
  refine r_iload_n (pc := 4) dX0_isCell_4 rfl ?_
  refine r_Vi (pc := 5) (μ' := mX5_has) dX0_isCell_5 nX0_54 iX5_has vX5_has kX5_has rfl rfl (rr (by decide) rfl) rfl ⟨Nat.zero_le _, Nat.zero_le _⟩ (fun g' q => ct_Row_has q.1.2.2.1 q) ?_
  refine r_ireturn (pc := 8) (ty := .boolean) dX0_isCell_8 rfl (by cases hasL wn i <;> rfl) ⟨Nat.zero_le _, Nat.zero_le _⟩ (fun gE hg => ?_)
  exact ⟨rfl, by rw [hg.2]; exact hP⟩
set_option maxHeartbeats 4000000 in
theorem ct_Ceil_isStrip {i : Int32} (hR : CeilI c ro st mi he le wh si ca wn wt g) (hP : P' g) : CV 1 0 0 mX0_isStrip c [.int i] g (fun v g' => v = some (.int (b2i (decide (0 ≤ i.toInt ∧ i.toInt < st.toInt)))) ∧ P' g') := by
  refine ⟨hR.V, ?_⟩
  refine ct_of (by decide) (fun _ _ => Nat.le_of_ble_eq_true rfl) ?_
  dsimp only [pad, ent]
  refine aw_P (P' := fun g' => CeilI c ro st mi he le wh si ca wn wt g' ∧ g' = g) (fun g' e => by subst e; exact ⟨hR, rfl⟩) ?_
  refine r_iload_n (pc := 0) dX0_isStrip_0 rfl ?_
  refine r_if_lt (pc := 1) 16 dX0_isStrip_1 (by decide) (fun c1 => ?_) (fun c1 => ?_)
  · skip
    have k1 := i32_lt0.mp c1
    refine r_iconst (pc := 16) (v := 0) dX0_isStrip_16 (by decide) ?_
    refine r_ireturn (pc := 17) (ty := .boolean) dX0_isStrip_17 rfl rfl ⟨Nat.zero_le _, Nat.zero_le _⟩ (fun gE hg => ?_)
    refine ⟨?_, by rw [hg.2]; exact hP⟩
    first
    | (rw [decide_eq_true (by omega)]; rfl)
    | (rw [decide_eq_false (by omega)]; rfl)
  · skip
    have k1 := ge0 c1
    refine r_iload_n (pc := 4) dX0_isStrip_4 rfl ?_
    refine r_aload_n (pc := 5) dX0_isStrip_5 rfl ?_
    refine r_getf (pc := 6) (k := 3) dX0_isStrip_6 hX0 eX0 (by decide) fX0_25 (fun _ q => q.1.o) rfl ?_
    refine r_icmp_ge (pc := 9) 16 dX0_isStrip_9 (by decide) (fun c9 => ?_) (fun c9 => ?_)
    · skip
      have k9 := fa_le.mp c9
      refine r_iconst (pc := 16) (v := 0) dX0_isStrip_16 (by decide) ?_
      refine r_ireturn (pc := 17) (ty := .boolean) dX0_isStrip_17 rfl rfl ⟨Nat.zero_le _, Nat.zero_le _⟩ (fun gE hg => ?_)
      refine ⟨?_, by rw [hg.2]; exact hP⟩
      first
      | (rw [decide_eq_true (by omega)]; rfl)
      | (rw [decide_eq_false (by omega)]; rfl)
    · skip
      have k9 : ¬ st.toInt ≤ i.toInt := fun q => c9 (fa_le.mpr q)
      refine r_iconst (pc := 12) (v := 1) dX0_isStrip_12 (by decide) ?_
      refine r_goto (pc := 13) 17 dX0_isStrip_13 (by decide) ?_
      refine r_ireturn (pc := 17) (ty := .boolean) dX0_isStrip_17 rfl rfl ⟨Nat.zero_le _, Nat.zero_le _⟩ (fun gE hg => ?_)
      refine ⟨?_, by rw [hg.2]; exact hP⟩
      first
      | (rw [decide_eq_true (by omega)]; rfl)
      | (rw [decide_eq_false (by omega)]; rfl)
set_option maxHeartbeats 4000000 in
theorem ct_Ceil_rowOf {i : Int32} (hR : CeilI c ro st mi he le wh si ca wn wt g) (hP : P' g) : CV 1 0 0 mX0_rowOf c [.int i] g (fun v g' => v = some (.int (if st ≤ 0 then 0 else i / st)) ∧ P' g') := by
  refine ⟨hR.V, ?_⟩
  refine ct_of (by decide) (fun _ _ => Nat.le_of_ble_eq_true rfl) ?_
  dsimp only [pad, ent]
  refine aw_P (P' := fun g' => CeilI c ro st mi he le wh si ca wn wt g' ∧ g' = g) (fun g' e => by subst e; exact ⟨hR, rfl⟩) ?_
  refine r_aload_n (pc := 0) dX0_rowOf_0 rfl ?_
  refine r_getf (pc := 1) (k := 3) dX0_rowOf_1 hX0 eX0 (by decide) fX0_25 (fun _ q => q.1.o) rfl ?_
  refine r_if_le (pc := 4) 16 dX0_rowOf_4 (by decide) (fun c4 => ?_) (fun c4 => ?_)
  · skip
    rw [if_pos c4]
    refine r_iconst (pc := 16) (v := 0) dX0_rowOf_16 (by decide) ?_
    refine r_ireturn (pc := 17) (ty := .int) dX0_rowOf_17 rfl rfl ⟨Nat.zero_le _, Nat.zero_le _⟩ (fun gE hg => ?_)
    exact ⟨rfl, by rw [hg.2]; exact hP⟩
  · skip
    rw [if_neg c4]
    refine r_iload_n (pc := 7) dX0_rowOf_7 rfl ?_
    refine r_aload_n (pc := 8) dX0_rowOf_8 rfl ?_
    refine r_getf (pc := 9) (k := 3) dX0_rowOf_9 hX0 eX0 (by decide) fX0_25 (fun _ q => q.1.o) rfl ?_
    refine r_idiv (pc := 12) dX0_rowOf_12 (fun q => c4 (by rw [q]; decide)) ?_
    refine r_goto (pc := 13) 17 dX0_rowOf_13 (by decide) ?_
    refine r_ireturn (pc := 17) (ty := .int) dX0_rowOf_17 rfl rfl ⟨Nat.zero_le _, Nat.zero_le _⟩ (fun gE hg => ?_)
    exact ⟨rfl, by rw [hg.2]; exact hP⟩
set_option maxHeartbeats 4000000 in
theorem ct_Ceil_stripOf {i : Int32} (hR : CeilI c ro st mi he le wh si ca wn wt g) (hP : P' g) : CV 1 0 0 mX0_stripOf c [.int i] g (fun v g' => v = some (.int (if st ≤ 0 then 0 else i % st)) ∧ P' g') := by
  refine ⟨hR.V, ?_⟩
  refine ct_of (by decide) (fun _ _ => Nat.le_of_ble_eq_true rfl) ?_
  dsimp only [pad, ent]
  refine aw_P (P' := fun g' => CeilI c ro st mi he le wh si ca wn wt g' ∧ g' = g) (fun g' e => by subst e; exact ⟨hR, rfl⟩) ?_
  refine r_aload_n (pc := 0) dX0_stripOf_0 rfl ?_
  refine r_getf (pc := 1) (k := 3) dX0_stripOf_1 hX0 eX0 (by decide) fX0_25 (fun _ q => q.1.o) rfl ?_
  refine r_if_le (pc := 4) 16 dX0_stripOf_4 (by decide) (fun c4 => ?_) (fun c4 => ?_)
  · skip
    rw [if_pos c4]
    refine r_iconst (pc := 16) (v := 0) dX0_stripOf_16 (by decide) ?_
    refine r_ireturn (pc := 17) (ty := .int) dX0_stripOf_17 rfl rfl ⟨Nat.zero_le _, Nat.zero_le _⟩ (fun gE hg => ?_)
    exact ⟨rfl, by rw [hg.2]; exact hP⟩
  · skip
    rw [if_neg c4]
    refine r_iload_n (pc := 7) dX0_stripOf_7 rfl ?_
    refine r_aload_n (pc := 8) dX0_stripOf_8 rfl ?_
    refine r_getf (pc := 9) (k := 3) dX0_stripOf_9 hX0 eX0 (by decide) fX0_25 (fun _ q => q.1.o) rfl ?_
    refine r_irem' (pc := 12) dX0_stripOf_12 (fun q => c4 (by rw [q]; decide)) ?_
    refine r_goto (pc := 13) 17 dX0_stripOf_13 (by decide) ?_
    refine r_ireturn (pc := 17) (ty := .int) dX0_stripOf_17 rfl rfl ⟨Nat.zero_le _, Nat.zero_le _⟩ (fun gE hg => ?_)
    exact ⟨rfl, by rw [hg.2]; exact hP⟩
set_option maxHeartbeats 4000000 in
theorem ct_Ceil_whenAt {r s : Int32} (hR : CeilI c ro st mi he le wh si ca wn wt g) (hP : P' g) : CV 2 0 0 mX0_whenAt c [.int r, .int s] g (fun v g' => v = some (.int (if 0 ≤ s.toInt ∧ s.toInt < st.toInt then atL wn (r * st + s) else -1)) ∧ P' g') := by
  refine ⟨hR.V, ?_⟩
  refine ct_of (by decide) (fun _ _ => Nat.le_of_ble_eq_true rfl) ?_
  dsimp only [pad, ent]
  refine aw_P (P' := fun g' => CeilI c ro st mi he le wh si ca wn wt g' ∧ g' = g) (fun g' e => by subst e; exact ⟨hR, rfl⟩) ?_
  refine r_aload_n (pc := 0) dX0_whenAt_0 rfl ?_
  refine r_iload_n (pc := 1) dX0_whenAt_1 rfl ?_
  refine r_Vi (pc := 2) (μ' := mX0_isStrip) dX0_whenAt_2 nX0_58 iX0_isStrip vX0_isStrip kX0_isStrip rfl rfl (rr (by decide) rfl) rfl ⟨Nat.zero_le _, Nat.zero_le _⟩ (fun g' q => ct_Ceil_isStrip q.1 q) ?_
  refine r_if_eq (pc := 5) 26 dX0_whenAt_5 (by decide) (fun c5 => ?_) (fun c5 => ?_)
  · skip
    have k5 : ¬ (0 ≤ s.toInt ∧ s.toInt < st.toInt) := fun q => by rw [decide_eq_true q] at c5; exact absurd c5 (by decide)
    rw [if_neg k5]
    refine r_iconst (pc := 26) (v := (-1)) dX0_whenAt_26 (by decide) ?_
    refine r_ireturn (pc := 27) (ty := .int) dX0_whenAt_27 rfl rfl ⟨Nat.zero_le _, Nat.zero_le _⟩ (fun gE hg => ?_)
    exact ⟨rfl, by rw [hg.2]; exact hP⟩
  · skip
    have k5 : 0 ≤ s.toInt ∧ s.toInt < st.toInt := Decidable.byContradiction fun q => by rw [decide_eq_false q] at c5; exact c5 rfl
    rw [if_pos k5]
    refine r_aload_n (pc := 8) dX0_whenAt_8 rfl ?_
    refine r_getf (pc := 9) (k := 0) dX0_whenAt_9 hX0 eX0 (by decide) fX0_14 (fun _ q => q.1.o) rfl ?_
    refine r_iload_n (pc := 12) dX0_whenAt_12 rfl ?_
    refine r_aload_n (pc := 13) dX0_whenAt_13 rfl ?_
    refine r_getf (pc := 14) (k := 3) dX0_whenAt_14 hX0 eX0 (by decide) fX0_25 (fun _ q => q.1.o) rfl ?_
    refine r_imul (pc := 17) dX0_whenAt_17 ?_
    refine r_iload_n (pc := 18) dX0_whenAt_18 rfl ?_
    refine r_iadd (pc := 19) dX0_whenAt_19 ?_
    refine r_Vi (pc := 20) (μ' := mX5_at) dX0_whenAt_20 nX0_61 iX5_at vX5_at kX5_at rfl rfl (rr (by decide) rfl) rfl ⟨Nat.zero_le _, Nat.zero_le _⟩ (fun g' q => ct_Row_at q.1.2.2.1 q) ?_
    refine r_goto (pc := 23) 27 dX0_whenAt_23 (by decide) ?_
    refine r_ireturn (pc := 27) (ty := .int) dX0_whenAt_27 rfl rfl ⟨Nat.zero_le _, Nat.zero_le _⟩ (fun gE hg => ?_)
    exact ⟨rfl, by rw [hg.2]; exact hP⟩
set_option maxHeartbeats 4000000 in
theorem ct_Ceil_whiteAt {r s : Int32} (hR : CeilI c ro st mi he le wh si ca wn wt g) (hP : P' g) : CV 2 0 0 mX0_whiteAt c [.int r, .int s] g (fun v g' => v = some (.int (if 0 ≤ s.toInt ∧ s.toInt < st.toInt then atL wt (r * st + s) else 0)) ∧ P' g') := by
  refine ⟨hR.V, ?_⟩
  refine ct_of (by decide) (fun _ _ => Nat.le_of_ble_eq_true rfl) ?_
  dsimp only [pad, ent]
  refine aw_P (P' := fun g' => CeilI c ro st mi he le wh si ca wn wt g' ∧ g' = g) (fun g' e => by subst e; exact ⟨hR, rfl⟩) ?_
  refine r_aload_n (pc := 0) dX0_whiteAt_0 rfl ?_
  refine r_iload_n (pc := 1) dX0_whiteAt_1 rfl ?_
  refine r_Vi (pc := 2) (μ' := mX0_isStrip) dX0_whiteAt_2 nX0_58 iX0_isStrip vX0_isStrip kX0_isStrip rfl rfl (rr (by decide) rfl) rfl ⟨Nat.zero_le _, Nat.zero_le _⟩ (fun g' q => ct_Ceil_isStrip q.1 q) ?_
  refine r_if_eq (pc := 5) 26 dX0_whiteAt_5 (by decide) (fun c5 => ?_) (fun c5 => ?_)
  · skip
    have k5 : ¬ (0 ≤ s.toInt ∧ s.toInt < st.toInt) := fun q => by rw [decide_eq_true q] at c5; exact absurd c5 (by decide)
    rw [if_neg k5]
    refine r_iconst (pc := 26) (v := 0) dX0_whiteAt_26 (by decide) ?_
    refine r_ireturn (pc := 27) (ty := .int) dX0_whiteAt_27 rfl rfl ⟨Nat.zero_le _, Nat.zero_le _⟩ (fun gE hg => ?_)
    exact ⟨rfl, by rw [hg.2]; exact hP⟩
  · skip
    have k5 : 0 ≤ s.toInt ∧ s.toInt < st.toInt := Decidable.byContradiction fun q => by rw [decide_eq_false q] at c5; exact c5 rfl
    rw [if_pos k5]
    refine r_aload_n (pc := 8) dX0_whiteAt_8 rfl ?_
    refine r_getf (pc := 9) (k := 1) dX0_whiteAt_9 hX0 eX0 (by decide) fX0_18 (fun _ q => q.1.o) rfl ?_
    refine r_iload_n (pc := 12) dX0_whiteAt_12 rfl ?_
    refine r_aload_n (pc := 13) dX0_whiteAt_13 rfl ?_
    refine r_getf (pc := 14) (k := 3) dX0_whiteAt_14 hX0 eX0 (by decide) fX0_25 (fun _ q => q.1.o) rfl ?_
    refine r_imul (pc := 17) dX0_whiteAt_17 ?_
    refine r_iload_n (pc := 18) dX0_whiteAt_18 rfl ?_
    refine r_iadd (pc := 19) dX0_whiteAt_19 ?_
    refine r_Vi (pc := 20) (μ' := mX5_at) dX0_whiteAt_20 nX0_61 iX5_at vX5_at kX5_at rfl rfl (rr (by decide) rfl) rfl ⟨Nat.zero_le _, Nat.zero_le _⟩ (fun g' q => ct_Row_at q.1.2.2.2 q) ?_
    refine r_goto (pc := 23) 27 dX0_whiteAt_23 (by decide) ?_
    refine r_ireturn (pc := 27) (ty := .int) dX0_whiteAt_27 rfl rfl ⟨Nat.zero_le _, Nat.zero_le _⟩ (fun gE hg => ?_)
    exact ⟨rfl, by rw [hg.2]; exact hP⟩
def cntL (l : List Int32) : Nat → Nat
  | 0 => 0
  | k + 1 => cntL l k + (if l.getD k 0 = -1 then 0 else 1)
theorem cntL_le (l : List Int32) : ∀ k, cntL l k ≤ k
  | 0 => Nat.le_refl 0
  | k + 1 => by have := cntL_le l k; rw [cntL]; split <;> omega
set_option maxHeartbeats 4000000 in
theorem ct_Ceil_rolledCells (hR : CeilI c ro st mi he le wh si ca wn wt g) (hP : P' g) : CV 2 0 0 mX0_rolledCells c [] g (fun v g' => v = some (.int (nI (cntL wn wn.length))) ∧ P' g') := by
  have hl := hR.2.2.1.2.1
  have hT := nI_T (n := wn.length) (by omega)
  refine ⟨hR.V, ?_⟩
  refine ct_of (by decide) (fun _ _ => Nat.le_of_ble_eq_true rfl) ?_
  dsimp only [pad, ent]
  refine aw_P (P' := fun g' => CeilI c ro st mi he le wh si ca wn wt g' ∧ g' = g) (fun g' e => by subst e; exact ⟨hR, rfl⟩) ?_
  have L : ∀ k, k ≤ wn.length → ∀ y : Option Value, AW (fun _ => True) (rmd 2 0 0) mX0_rolledCells 0 0 4 [some (.ref c), some (.int (nI (cntL wn k))), some (.int (nI k))] [] (fun g' => CeilI c ro st mi he le wh si ca wn wt g' ∧ g' = g) (fun v g' => v = some (.int (nI (cntL wn wn.length))) ∧ P' g') := by
    refine up_loop ?_ ?_
    · intro _
      refine r_iload_n (pc := 4) dX0_rolledCells_4 rfl ?_
      refine r_aload_n (pc := 5) dX0_rolledCells_5 rfl ?_
      refine r_getf (pc := 6) (k := 0) dX0_rolledCells_6 hX0 eX0 (by decide) fX0_14 (fun _ q => q.1.o) rfl ?_
      refine r_Vi (pc := 9) (μ' := mX5_length) dX0_rolledCells_9 nX0_50 iX5_length vX5_length kX5_length rfl rfl (rr (by decide) rfl) rfl ⟨Nat.zero_le _, Nat.zero_le _⟩ (fun g' q => ct_Row_length q.1.2.2.1 q) ?_
      refine r_icmp_ge (pc := 12) 36 dX0_rolledCells_12 (by decide) (fun c12 => ?_) (fun c12 => ?_)
      · skip
        refine r_iload_n (pc := 36) dX0_rolledCells_36 rfl ?_
        refine r_ireturn (pc := 37) (ty := .int) dX0_rolledCells_37 rfl rfl ⟨Nat.zero_le _, Nat.zero_le _⟩ (fun gE hg => ?_)
        exact ⟨rfl, by rw [hg.2]; exact hP⟩
      · skip
        exact absurd (fa_le.mpr (Int.le_refl _)) c12
    · intro k hk ih _
      have hTk := nI_T (n := k) (by omega)
      refine r_iload_n (pc := 4) dX0_rolledCells_4 rfl ?_
      refine r_aload_n (pc := 5) dX0_rolledCells_5 rfl ?_
      refine r_getf (pc := 6) (k := 0) dX0_rolledCells_6 hX0 eX0 (by decide) fX0_14 (fun _ q => q.1.o) rfl ?_
      refine r_Vi (pc := 9) (μ' := mX5_length) dX0_rolledCells_9 nX0_50 iX5_length vX5_length kX5_length rfl rfl (rr (by decide) rfl) rfl ⟨Nat.zero_le _, Nat.zero_le _⟩ (fun g' q => ct_Row_length q.1.2.2.1 q) ?_
      refine r_icmp_ge (pc := 12) 36 dX0_rolledCells_12 (by decide) (fun c12 => ?_) (fun c12 => ?_)
      · skip
        exact absurd c12 (fun q => by have := fa_le.mp q; omega)
      · skip
        refine r_aload_n (pc := 15) dX0_rolledCells_15 rfl ?_
        refine r_getf (pc := 16) (k := 0) dX0_rolledCells_16 hX0 eX0 (by decide) fX0_14 (fun _ q => q.1.o) rfl ?_
        refine r_iload_n (pc := 19) dX0_rolledCells_19 rfl ?_
        refine r_Vi (pc := 20) (μ' := mX5_at) dX0_rolledCells_20 nX0_61 iX5_at vX5_at kX5_at rfl rfl (rr (by decide) rfl) rfl ⟨Nat.zero_le _, Nat.zero_le _⟩ (fun g' q => ct_Row_at q.1.2.2.1 q) ?_
        rw [atL_nI (show k ≤ 4000 by omega)]
        refine r_iconst (pc := 23) (v := (-1)) dX0_rolledCells_23 (by decide) ?_
        refine r_icmp_eq (pc := 24) 30 dX0_rolledCells_24 (by decide) (fun c24 => ?_) (fun c24 => ?_)
        · skip
          have e : cntL wn (k + 1) = cntL wn k := by rw [cntL, if_pos c24, Nat.add_zero]
          try rw [nI_s]
          rw [← e]
          refine r_iinc1 (pc := 30) dX0_rolledCells_30 rfl (Nat.le_of_ble_eq_true rfl) rfl ?_
          dsimp only [lset]
          refine r_goto (pc := 33) 4 dX0_rolledCells_33 (by decide) ?_
          rw [nI_s]
          exact ih none
        · skip
          have e : cntL wn (k + 1) = cntL wn k + 1 := by rw [cntL, if_neg c24]
          refine r_iinc1 (pc := 27) dX0_rolledCells_27 rfl (Nat.le_of_ble_eq_true rfl) rfl ?_
          dsimp only [lset]
          try rw [nI_s]
          rw [← e]
          refine r_iinc1 (pc := 30) dX0_rolledCells_30 rfl (Nat.le_of_ble_eq_true rfl) rfl ?_
          dsimp only [lset]
          refine r_goto (pc := 33) 4 dX0_rolledCells_33 (by decide) ?_
          rw [nI_s]
          exact ih none
  refine r_iconst (pc := 0) (v := 0) dX0_rolledCells_0 (by decide) ?_
  refine r_istore_n (pc := 1) dX0_rolledCells_1 rfl (Nat.le_of_ble_eq_true rfl) rfl ?_
  dsimp only [lset]
  refine r_iconst (pc := 2) (v := 0) dX0_rolledCells_2 (by decide) ?_
  refine r_istore_n (pc := 3) dX0_rolledCells_3 rfl (Nat.le_of_ble_eq_true rfl) rfl ?_
  dsimp only [lset]
  exact L 0 (Nat.zero_le _) none
def setOk (what v : Int32) : Bool := if what = 0 then decide (0 ≤ v.toInt ∧ v.toInt ≤ 9) else if what = 1 then decide (0 ≤ v.toInt ∧ v.toInt ≤ 99) else if what = 2 then decide (0 ≤ v.toInt ∧ v.toInt ≤ 99) else if what = 3 then decide (1 ≤ v.toInt ∧ v.toInt ≤ 99) else false
set_option maxHeartbeats 4000000 in
theorem ct_Ceil_isSetting {what v : Int32} (g : AH) : CT 1 0 0 mX0_isSetting [.int what, .int v] g (fun w g' => w = some (.int (b2i (setOk what v))) ∧ g' = g) := by
  refine ct_of (by decide) (fun _ _ => Nat.le_of_ble_eq_true rfl) ?_
  dsimp only [pad, ent]
  unfold setOk
  refine r_iload_n (pc := 0) dX0_isSetting_0 rfl ?_
  by_cases s1_0 : what = 0
  · skip
    refine r_tableAt (pc := 1) 32 0 dX0_isSetting_1 (by rw [s1_0]; decide) (by decide) rfl (by decide) ?_
    simp only [s1_0, if_true]
    refine r_iload_n (pc := 32) dX0_isSetting_32 rfl ?_
    refine r_if_lt (pc := 33) 46 dX0_isSetting_33 (by decide) (fun c33 => ?_) (fun c33 => ?_)
    · skip
      have k1 := i32_lt0.mp c33
      refine r_iconst (pc := 46) (v := 0) dX0_isSetting_46 (by decide) ?_
      refine r_ireturn (pc := 47) (ty := .boolean) dX0_isSetting_47 rfl rfl ⟨Nat.zero_le _, Nat.zero_le _⟩ (fun gE hg => ?_)
      refine ⟨?_, hg⟩
      first
      | rfl
      | (rw [decide_eq_true (by omega)]; rfl)
      | (rw [decide_eq_false (by omega)]; rfl)
    · skip
      have k1 := ge0 c33
      refine r_iload_n (pc := 36) dX0_isSetting_36 rfl ?_
      refine r_bipush (pc := 37) (v := 9) dX0_isSetting_37 (by decide) ?_
      refine r_icmp_gt (pc := 39) 46 dX0_isSetting_39 (by decide) (fun c39 => ?_) (fun c39 => ?_)
      · skip
        have k2 : (9 : Int) < v.toInt := fa_lt.mp c39
        refine r_iconst (pc := 46) (v := 0) dX0_isSetting_46 (by decide) ?_
        refine r_ireturn (pc := 47) (ty := .boolean) dX0_isSetting_47 rfl rfl ⟨Nat.zero_le _, Nat.zero_le _⟩ (fun gE hg => ?_)
        refine ⟨?_, hg⟩
        first
        | rfl
        | (rw [decide_eq_true (by omega)]; rfl)
        | (rw [decide_eq_false (by omega)]; rfl)
      · skip
        have k2 : ¬ (9 : Int) < v.toInt := fun q => c39 (fa_lt.mpr q)
        refine r_iconst (pc := 42) (v := 1) dX0_isSetting_42 (by decide) ?_
        refine r_goto (pc := 43) 47 dX0_isSetting_43 (by decide) ?_
        refine r_ireturn (pc := 47) (ty := .boolean) dX0_isSetting_47 rfl rfl ⟨Nat.zero_le _, Nat.zero_le _⟩ (fun gE hg => ?_)
        refine ⟨?_, hg⟩
        first
        | rfl
        | (rw [decide_eq_true (by omega)]; rfl)
        | (rw [decide_eq_false (by omega)]; rfl)
  by_cases s1_1 : what = 1
  · skip
    refine r_tableAt (pc := 1) 48 1 dX0_isSetting_1 (by rw [s1_1]; decide) (by decide) rfl (by decide) ?_
    simp only [s1_1, if_true, show ¬ (1 : Int32) = 0 by decide, if_false]
    refine r_iload_n (pc := 48) dX0_isSetting_48 rfl ?_
    refine r_if_lt (pc := 49) 62 dX0_isSetting_49 (by decide) (fun c49 => ?_) (fun c49 => ?_)
    · skip
      have k1 := i32_lt0.mp c49
      refine r_iconst (pc := 62) (v := 0) dX0_isSetting_62 (by decide) ?_
      refine r_ireturn (pc := 63) (ty := .boolean) dX0_isSetting_63 rfl rfl ⟨Nat.zero_le _, Nat.zero_le _⟩ (fun gE hg => ?_)
      refine ⟨?_, hg⟩
      first
      | rfl
      | (rw [decide_eq_true (by omega)]; rfl)
      | (rw [decide_eq_false (by omega)]; rfl)
    · skip
      have k1 := ge0 c49
      refine r_iload_n (pc := 52) dX0_isSetting_52 rfl ?_
      refine r_bipush (pc := 53) (v := 99) dX0_isSetting_53 (by decide) ?_
      refine r_icmp_gt (pc := 55) 62 dX0_isSetting_55 (by decide) (fun c55 => ?_) (fun c55 => ?_)
      · skip
        have k2 : (99 : Int) < v.toInt := fa_lt.mp c55
        refine r_iconst (pc := 62) (v := 0) dX0_isSetting_62 (by decide) ?_
        refine r_ireturn (pc := 63) (ty := .boolean) dX0_isSetting_63 rfl rfl ⟨Nat.zero_le _, Nat.zero_le _⟩ (fun gE hg => ?_)
        refine ⟨?_, hg⟩
        first
        | rfl
        | (rw [decide_eq_true (by omega)]; rfl)
        | (rw [decide_eq_false (by omega)]; rfl)
      · skip
        have k2 : ¬ (99 : Int) < v.toInt := fun q => c55 (fa_lt.mpr q)
        refine r_iconst (pc := 58) (v := 1) dX0_isSetting_58 (by decide) ?_
        refine r_goto (pc := 59) 63 dX0_isSetting_59 (by decide) ?_
        refine r_ireturn (pc := 63) (ty := .boolean) dX0_isSetting_63 rfl rfl ⟨Nat.zero_le _, Nat.zero_le _⟩ (fun gE hg => ?_)
        refine ⟨?_, hg⟩
        first
        | rfl
        | (rw [decide_eq_true (by omega)]; rfl)
        | (rw [decide_eq_false (by omega)]; rfl)
  by_cases s1_2 : what = 2
  · skip
    refine r_tableAt (pc := 1) 64 2 dX0_isSetting_1 (by rw [s1_2]; decide) (by decide) rfl (by decide) ?_
    simp only [s1_2, if_true, show ¬ (2 : Int32) = 0 by decide, show ¬ (2 : Int32) = 1 by decide, if_false]
    refine r_iload_n (pc := 64) dX0_isSetting_64 rfl ?_
    refine r_if_lt (pc := 65) 78 dX0_isSetting_65 (by decide) (fun c65 => ?_) (fun c65 => ?_)
    · skip
      have k1 := i32_lt0.mp c65
      refine r_iconst (pc := 78) (v := 0) dX0_isSetting_78 (by decide) ?_
      refine r_ireturn (pc := 79) (ty := .boolean) dX0_isSetting_79 rfl rfl ⟨Nat.zero_le _, Nat.zero_le _⟩ (fun gE hg => ?_)
      refine ⟨?_, hg⟩
      first
      | rfl
      | (rw [decide_eq_true (by omega)]; rfl)
      | (rw [decide_eq_false (by omega)]; rfl)
    · skip
      have k1 := ge0 c65
      refine r_iload_n (pc := 68) dX0_isSetting_68 rfl ?_
      refine r_bipush (pc := 69) (v := 99) dX0_isSetting_69 (by decide) ?_
      refine r_icmp_gt (pc := 71) 78 dX0_isSetting_71 (by decide) (fun c71 => ?_) (fun c71 => ?_)
      · skip
        have k2 : (99 : Int) < v.toInt := fa_lt.mp c71
        refine r_iconst (pc := 78) (v := 0) dX0_isSetting_78 (by decide) ?_
        refine r_ireturn (pc := 79) (ty := .boolean) dX0_isSetting_79 rfl rfl ⟨Nat.zero_le _, Nat.zero_le _⟩ (fun gE hg => ?_)
        refine ⟨?_, hg⟩
        first
        | rfl
        | (rw [decide_eq_true (by omega)]; rfl)
        | (rw [decide_eq_false (by omega)]; rfl)
      · skip
        have k2 : ¬ (99 : Int) < v.toInt := fun q => c71 (fa_lt.mpr q)
        refine r_iconst (pc := 74) (v := 1) dX0_isSetting_74 (by decide) ?_
        refine r_goto (pc := 75) 79 dX0_isSetting_75 (by decide) ?_
        refine r_ireturn (pc := 79) (ty := .boolean) dX0_isSetting_79 rfl rfl ⟨Nat.zero_le _, Nat.zero_le _⟩ (fun gE hg => ?_)
        refine ⟨?_, hg⟩
        first
        | rfl
        | (rw [decide_eq_true (by omega)]; rfl)
        | (rw [decide_eq_false (by omega)]; rfl)
  by_cases s1_3 : what = 3
  · skip
    refine r_tableAt (pc := 1) 80 3 dX0_isSetting_1 (by rw [s1_3]; decide) (by decide) rfl (by decide) ?_
    simp only [s1_3, if_true, show ¬ (3 : Int32) = 0 by decide, show ¬ (3 : Int32) = 1 by decide, show ¬ (3 : Int32) = 2 by decide, if_false]
    refine r_iload_n (pc := 80) dX0_isSetting_80 rfl ?_
    refine r_iconst (pc := 81) (v := 1) dX0_isSetting_81 (by decide) ?_
    refine r_icmp_lt (pc := 82) 95 dX0_isSetting_82 (by decide) (fun c82 => ?_) (fun c82 => ?_)
    · skip
      have k1 : v.toInt < 1 := fa_lt.mp c82
      refine r_iconst (pc := 95) (v := 0) dX0_isSetting_95 (by decide) ?_
      refine r_ireturn (pc := 96) (ty := .boolean) dX0_isSetting_96 rfl rfl ⟨Nat.zero_le _, Nat.zero_le _⟩ (fun gE hg => ?_)
      refine ⟨?_, hg⟩
      first
      | rfl
      | (rw [decide_eq_true (by omega)]; rfl)
      | (rw [decide_eq_false (by omega)]; rfl)
    · skip
      have k1 : ¬ v.toInt < 1 := fun q => c82 (fa_lt.mpr q)
      refine r_iload_n (pc := 85) dX0_isSetting_85 rfl ?_
      refine r_bipush (pc := 86) (v := 99) dX0_isSetting_86 (by decide) ?_
      refine r_icmp_gt (pc := 88) 95 dX0_isSetting_88 (by decide) (fun c88 => ?_) (fun c88 => ?_)
      · skip
        have k2 : (99 : Int) < v.toInt := fa_lt.mp c88
        refine r_iconst (pc := 95) (v := 0) dX0_isSetting_95 (by decide) ?_
        refine r_ireturn (pc := 96) (ty := .boolean) dX0_isSetting_96 rfl rfl ⟨Nat.zero_le _, Nat.zero_le _⟩ (fun gE hg => ?_)
        refine ⟨?_, hg⟩
        first
        | rfl
        | (rw [decide_eq_true (by omega)]; rfl)
        | (rw [decide_eq_false (by omega)]; rfl)
      · skip
        have k2 : ¬ (99 : Int) < v.toInt := fun q => c88 (fa_lt.mpr q)
        refine r_iconst (pc := 91) (v := 1) dX0_isSetting_91 (by decide) ?_
        refine r_goto (pc := 92) 96 dX0_isSetting_92 (by decide) ?_
        refine r_ireturn (pc := 96) (ty := .boolean) dX0_isSetting_96 rfl rfl ⟨Nat.zero_le _, Nat.zero_le _⟩ (fun gE hg => ?_)
        refine ⟨?_, hg⟩
        first
        | rfl
        | (rw [decide_eq_true (by omega)]; rfl)
        | (rw [decide_eq_false (by omega)]; rfl)
  have t1_0 : ¬ (what).toInt = 0 := fun q => s1_0 (Int32.toInt_inj.mp q)
  have t1_1 : ¬ (what).toInt = 1 := fun q => s1_1 (Int32.toInt_inj.mp q)
  have t1_2 : ¬ (what).toInt = 2 := fun q => s1_2 (Int32.toInt_inj.mp q)
  have t1_3 : ¬ (what).toInt = 3 := fun q => s1_3 (Int32.toInt_inj.mp q)
  refine r_tableOut (pc := 1) 97 dX0_isSetting_1 (by omega) (by decide) ?_
  simp only [s1_0, s1_1, s1_2, s1_3, if_false]
  refine r_iconst (pc := 97) (v := 0) dX0_isSetting_97 (by decide) ?_
  refine r_ireturn (pc := 98) (ty := .boolean) dX0_isSetting_98 rfl rfl ⟨Nat.zero_le _, Nat.zero_le _⟩ (fun gE hg => ?_)
  refine ⟨?_, hg⟩
  first
  | rfl
  | (rw [decide_eq_true (by omega)]; rfl)
  | (rw [decide_eq_false (by omega)]; rfl)
set_option maxHeartbeats 4000000 in
theorem ct_Ceil_warmTo {x : Int32} (hR : CeilI c ro st mi he le wh si ca wn wt g) (hP : ∀ g', CeilI c ro st mi x le wh si ca wn wt g' → Off c 5 g g' → P' g') : CV 1 0 0 mX0_warmTo c [.int x] g (fun v g' => v = none ∧ P' g') := by
  refine ⟨hR.V, ?_⟩
  refine ct_of (by decide) (fun _ _ => Nat.le_of_ble_eq_true rfl) ?_
  dsimp only [pad, ent]
  refine aw_P (P' := fun g' => CeilI c ro st mi he le wh si ca wn wt g' ∧ Off c 5 g g') (fun g' e => by subst e; exact ⟨hR, Off.rf _ _ _⟩) ?_
  refine r_aload_n (pc := 0) dX0_warmTo_0 rfl ?_
  refine r_iload_n (pc := 1) dX0_warmTo_1 rfl ?_
  refine r_putf (pc := 2) (k := 5) (P' := fun g' => CeilI c ro st mi x le wh si ca wn wt g' ∧ Off c 5 g g') tyX0 dX0_warmTo_2 hX0 tyX0_ok nmX0 eX0 (by decide) fX0_31 rfl rfl (fun _ _ => rfl) (fun _ _ => rfl) (Nat.le_of_ble_eq_true rfl) (fun _ q => q.1.o) (fun _ q => ⟨q.1.put, q.2.set (by omega) (by omega)⟩) ?_
  refine r_return (pc := 5) dX0_warmTo_5 rfl ⟨Nat.zero_le _, Nat.zero_le _⟩ (fun gE hg => ?_)
  exact ⟨rfl, hP _ hg.1 hg.2⟩
set_option maxHeartbeats 4000000 in
theorem ct_Ceil_letPass {x : Int32} (hR : CeilI c ro st mi he le wh si ca wn wt g) (hP : ∀ g', CeilI c ro st (mi + x) he le wh si ca wn wt g' → Off c 5 g g' → P' g') : CV 1 0 0 mX0_letPass c [.int x] g (fun v g' => v = none ∧ P' g') := by
  refine ⟨hR.V, ?_⟩
  refine ct_of (by decide) (fun _ _ => Nat.le_of_ble_eq_true rfl) ?_
  dsimp only [pad, ent]
  refine aw_P (P' := fun g' => CeilI c ro st mi he le wh si ca wn wt g' ∧ Off c 5 g g') (fun g' e => by subst e; exact ⟨hR, Off.rf _ _ _⟩) ?_
  refine r_aload_n (pc := 0) dX0_letPass_0 rfl ?_
  refine r_dup (pc := 1) dX0_letPass_1 rfl ?_
  refine r_getf (pc := 2) (k := 4) dX0_letPass_2 hX0 eX0 (by decide) fX0_28 (fun _ q => q.1.o) rfl ?_
  refine r_iload_n (pc := 5) dX0_letPass_5 rfl ?_
  refine r_iadd (pc := 6) dX0_letPass_6 ?_
  refine r_putf (pc := 7) (k := 4) (P' := fun g' => CeilI c ro st (mi + x) he le wh si ca wn wt g' ∧ Off c 5 g g') tyX0 dX0_letPass_7 hX0 tyX0_ok nmX0 eX0 (by decide) fX0_28 rfl rfl (fun _ _ => rfl) (fun _ _ => rfl) (Nat.le_of_ble_eq_true rfl) (fun _ q => q.1.o) (fun _ q => ⟨q.1.put, q.2.set (by omega) (by omega)⟩) ?_
  refine r_return (pc := 10) dX0_letPass_10 rfl ⟨Nat.zero_le _, Nat.zero_le _⟩ (fun gE hg => ?_)
  exact ⟨rfl, hP _ hg.1 hg.2⟩
set_option maxHeartbeats 4000000 in
theorem ct_Ceil_letPassWithinBounds {x : Int32} (hR : CeilI c ro st mi he le wh si ca wn wt g) (hP : ∀ g', CeilI c ro st (if mi + x < 9999 then mi + x else 9999) he le wh si ca wn wt g' → Off c 5 g g' → P' g') : CV 2 0 0 mX0_letPassWithinBounds c [.int x] g (fun v g' => v = none ∧ P' g') := by
  refine ⟨hR.V, ?_⟩
  refine ct_of (by decide) (fun _ _ => Nat.le_of_ble_eq_true rfl) ?_
  dsimp only [pad, ent]
  refine aw_P (P' := fun g' => CeilI c ro st mi he le wh si ca wn wt g' ∧ Off c 5 g g') (fun g' e => by subst e; exact ⟨hR, Off.rf _ _ _⟩) ?_
  refine r_aload_n (pc := 0) dX0_letPassWithinBounds_0 rfl ?_
  refine r_sipush (pc := 1) (v := 9999) dX0_letPassWithinBounds_1 (by decide) ?_
  refine r_aload_n (pc := 4) dX0_letPassWithinBounds_4 rfl ?_
  refine r_getf (pc := 5) (k := 4) dX0_letPassWithinBounds_5 hX0 eX0 (by decide) fX0_28 (fun _ q => q.1.o) rfl ?_
  refine r_iload_n (pc := 8) dX0_letPassWithinBounds_8 rfl ?_
  refine r_iadd (pc := 9) dX0_letPassWithinBounds_9 ?_
  refine r_mmin (pc := 10) dX0_letPassWithinBounds_10 nX0_65 ma_s_min z_math ma_c_min ⟨(Nat.le_of_ble_eq_true rfl), (Nat.le_of_ble_eq_true rfl)⟩ (Nat.le_of_ble_eq_true rfl) ⟨Nat.zero_le _, Nat.zero_le _⟩ rfl ?_
  refine r_putf (pc := 13) (k := 4) (P' := fun g' => CeilI c ro st (if mi + x < 9999 then mi + x else 9999) he le wh si ca wn wt g' ∧ Off c 5 g g') tyX0 dX0_letPassWithinBounds_13 hX0 tyX0_ok nmX0 eX0 (by decide) fX0_28 rfl rfl (fun _ _ => rfl) (fun _ _ => rfl) (Nat.le_of_ble_eq_true rfl) (fun _ q => q.1.o) (fun _ q => ⟨q.1.put, q.2.set (by omega) (by omega)⟩) ?_
  refine r_return (pc := 16) dX0_letPassWithinBounds_16 rfl ⟨Nat.zero_le _, Nat.zero_le _⟩ (fun gE hg => ?_)
  exact ⟨rfl, hP _ hg.1 hg.2⟩
def nwI (wh : Int32) : Int32 := if wh < 99 then wh + 1 else 0
set_option maxHeartbeats 4000000 in
theorem ct_Ceil_openCan (hR : CeilI c ro st mi he le wh si ca wn wt g) (hP : ∀ g', CeilI c ro st mi he si (nwI wh) si (ca + 1) wn wt g' → Off c 5 g g' → P' g') : CV 1 0 0 mX0_openCan c [] g (fun v g' => v = none ∧ P' g') := by
  refine ⟨hR.V, ?_⟩
  refine ct_of (by decide) (fun _ _ => Nat.le_of_ble_eq_true rfl) ?_
  dsimp only [pad, ent]
  refine aw_P (P' := fun g' => CeilI c ro st mi he le wh si ca wn wt g' ∧ Off c 5 g g') (fun g' e => by subst e; exact ⟨hR, Off.rf _ _ _⟩) ?_
  refine r_aload_n (pc := 0) dX0_openCan_0 rfl ?_
  refine r_aload_n (pc := 1) dX0_openCan_1 rfl ?_
  refine r_getf (pc := 2) (k := 8) dX0_openCan_2 hX0 eX0 (by decide) fX0_40 (fun _ q => q.1.o) rfl ?_
  refine r_putf (pc := 5) (k := 6) (P' := fun g' => CeilI c ro st mi he si wh si ca wn wt g' ∧ Off c 5 g g') tyX0 dX0_openCan_5 hX0 tyX0_ok nmX0 eX0 (by decide) fX0_34 rfl rfl (fun _ _ => rfl) (fun _ _ => rfl) (Nat.le_of_ble_eq_true rfl) (fun _ q => q.1.o) (fun _ q => ⟨q.1.put, q.2.set (by omega) (by omega)⟩) ?_
  refine r_aload_n (pc := 8) dX0_openCan_8 rfl ?_
  refine r_aload_n (pc := 9) dX0_openCan_9 rfl ?_
  refine r_getf (pc := 10) (k := 7) dX0_openCan_10 hX0 eX0 (by decide) fX0_37 (fun _ q => q.1.o) rfl ?_
  refine r_bipush (pc := 13) (v := 99) dX0_openCan_13 (by decide) ?_
  refine r_icmp_lt (pc := 15) 22 dX0_openCan_15 (by decide) (fun c15 => ?_) (fun c15 => ?_)
  · skip
    have e15 : wh + 1 = nwI wh := (if_pos c15).symm
    refine r_aload_n (pc := 22) dX0_openCan_22 rfl ?_
    refine r_getf (pc := 23) (k := 7) dX0_openCan_23 hX0 eX0 (by decide) fX0_37 (fun _ q => q.1.o) rfl ?_
    refine r_iconst (pc := 26) (v := 1) dX0_openCan_26 (by decide) ?_
    refine r_iadd (pc := 27) dX0_openCan_27 ?_
    rw [e15]
    refine r_putf (pc := 28) (k := 7) (P' := fun g' => CeilI c ro st mi he si (nwI wh) si ca wn wt g' ∧ Off c 5 g g') tyX0 dX0_openCan_28 hX0 tyX0_ok nmX0 eX0 (by decide) fX0_37 rfl rfl (fun _ _ => rfl) (fun _ _ => rfl) (Nat.le_of_ble_eq_true rfl) (fun _ q => q.1.o) (fun _ q => ⟨q.1.put, q.2.set (by omega) (by omega)⟩) ?_
    refine r_aload_n (pc := 31) dX0_openCan_31 rfl ?_
    refine r_dup (pc := 32) dX0_openCan_32 rfl ?_
    refine r_getf (pc := 33) (k := 9) dX0_openCan_33 hX0 eX0 (by decide) fX0_43 (fun _ q => q.1.o) rfl ?_
    refine r_iconst (pc := 36) (v := 1) dX0_openCan_36 (by decide) ?_
    refine r_iadd (pc := 37) dX0_openCan_37 ?_
    refine r_putf (pc := 38) (k := 9) (P' := fun g' => CeilI c ro st mi he si (nwI wh) si (ca + 1) wn wt g' ∧ Off c 5 g g') tyX0 dX0_openCan_38 hX0 tyX0_ok nmX0 eX0 (by decide) fX0_43 rfl rfl (fun _ _ => rfl) (fun _ _ => rfl) (Nat.le_of_ble_eq_true rfl) (fun _ q => q.1.o) (fun _ q => ⟨q.1.put, q.2.set (by omega) (by omega)⟩) ?_
    refine r_return (pc := 41) dX0_openCan_41 rfl ⟨Nat.zero_le _, Nat.zero_le _⟩ (fun gE hg => ?_)
    exact ⟨rfl, hP _ hg.1 hg.2⟩
  · skip
    have e15 : (0 : Int32) = nwI wh := (if_neg c15).symm
    refine r_iconst (pc := 18) (v := 0) dX0_openCan_18 (by decide) ?_
    refine r_goto (pc := 19) 28 dX0_openCan_19 (by decide) ?_
    rw [e15]
    refine r_putf (pc := 28) (k := 7) (P' := fun g' => CeilI c ro st mi he si (nwI wh) si ca wn wt g' ∧ Off c 5 g g') tyX0 dX0_openCan_28 hX0 tyX0_ok nmX0 eX0 (by decide) fX0_37 rfl rfl (fun _ _ => rfl) (fun _ _ => rfl) (Nat.le_of_ble_eq_true rfl) (fun _ q => q.1.o) (fun _ q => ⟨q.1.put, q.2.set (by omega) (by omega)⟩) ?_
    refine r_aload_n (pc := 31) dX0_openCan_31 rfl ?_
    refine r_dup (pc := 32) dX0_openCan_32 rfl ?_
    refine r_getf (pc := 33) (k := 9) dX0_openCan_33 hX0 eX0 (by decide) fX0_43 (fun _ q => q.1.o) rfl ?_
    refine r_iconst (pc := 36) (v := 1) dX0_openCan_36 (by decide) ?_
    refine r_iadd (pc := 37) dX0_openCan_37 ?_
    refine r_putf (pc := 38) (k := 9) (P' := fun g' => CeilI c ro st mi he si (nwI wh) si (ca + 1) wn wt g' ∧ Off c 5 g g') tyX0 dX0_openCan_38 hX0 tyX0_ok nmX0 eX0 (by decide) fX0_43 rfl rfl (fun _ _ => rfl) (fun _ _ => rfl) (Nat.le_of_ble_eq_true rfl) (fun _ q => q.1.o) (fun _ q => ⟨q.1.put, q.2.set (by omega) (by omega)⟩) ?_
    refine r_return (pc := 41) dX0_openCan_41 rfl ⟨Nat.zero_le _, Nat.zero_le _⟩ (fun gE hg => ?_)
    exact ⟨rfl, hP _ hg.1 hg.2⟩
set_option maxHeartbeats 4000000 in
theorem ct_Ceil_build {nr ns : Int32} (hR : CeilI c ro st mi he le wh si ca wn wt g) (hP : ∀ g', CeilI c nr ns mi he le wh si ca (List.replicate (clampI (nr * ns) 36) (-1)) (List.replicate (clampI (nr * ns) 36) 0) g' → Off c 5 g g' → P' g') : CV 3 0 0 mX0_build c [.int nr, .int ns] g (fun v g' => v = none ∧ P' g') := by
  refine ⟨hR.V, ?_⟩
  refine ct_of (by decide) (fun _ _ => Nat.le_of_ble_eq_true rfl) ?_
  dsimp only [pad, ent]
  refine aw_P (P' := fun g' => CeilI c ro st mi he le wh si ca wn wt g' ∧ Off c 5 g g') (fun g' e => by subst e; exact ⟨hR, Off.rf _ _ _⟩) ?_
  refine r_aload_n (pc := 0) dX0_build_0 rfl ?_
  refine r_iload_n (pc := 1) dX0_build_1 rfl ?_
  refine r_putf (pc := 2) (k := 2) (P' := fun g' => CeilI c nr st mi he le wh si ca wn wt g' ∧ Off c 5 g g') tyX0 dX0_build_2 hX0 tyX0_ok nmX0 eX0 (by decide) fX0_21 rfl rfl (fun _ _ => rfl) (fun _ _ => rfl) (Nat.le_of_ble_eq_true rfl) (fun _ q => q.1.o) (fun _ q => ⟨q.1.put, q.2.set (by omega) (by omega)⟩) ?_
  refine r_aload_n (pc := 5) dX0_build_5 rfl ?_
  refine r_iload_n (pc := 6) dX0_build_6 rfl ?_
  refine r_putf (pc := 7) (k := 3) (P' := fun g' => CeilI c nr ns mi he le wh si ca wn wt g' ∧ Off c 5 g g') tyX0 dX0_build_7 hX0 tyX0_ok nmX0 eX0 (by decide) fX0_25 rfl rfl (fun _ _ => rfl) (fun _ _ => rfl) (Nat.le_of_ble_eq_true rfl) (fun _ q => q.1.o) (fun _ q => ⟨q.1.put, q.2.set (by omega) (by omega)⟩) ?_
  refine r_aload_n (pc := 10) dX0_build_10 rfl ?_
  refine r_getf (pc := 11) (k := 0) dX0_build_11 hX0 eX0 (by decide) fX0_14 (fun _ q => q.1.o) rfl ?_
  refine r_aload_n (pc := 14) dX0_build_14 rfl ?_
  refine r_getf (pc := 15) (k := 2) dX0_build_15 hX0 eX0 (by decide) fX0_21 (fun _ q => q.1.o) rfl ?_
  refine r_aload_n (pc := 18) dX0_build_18 rfl ?_
  refine r_getf (pc := 19) (k := 3) dX0_build_19 hX0 eX0 (by decide) fX0_25 (fun _ q => q.1.o) rfl ?_
  refine r_imul (pc := 22) dX0_build_22 ?_
  refine r_iconst (pc := 23) (v := (-1)) dX0_build_23 (by decide) ?_
  refine r_Vv (pc := 24) (μ' := mX5_fill) dX0_build_24 nX0_46 iX5_fill vX5_fill kX5_fill rfl rfl (rr (by decide) rfl) rfl ⟨Nat.zero_le _, Nat.zero_le _⟩ (fun g' q => ct_Row_fill (P' := fun g' => CeilI c nr ns mi he le wh si ca (List.replicate (clampI (nr * ns) 36) (-1)) wt g' ∧ Off c 5 g g') q.1.2.2.1 (fun g2 a b => ⟨q.1.setN a b, q.2.tr (b.wide (by omega) (by omega))⟩)) ?_
  refine r_aload_n (pc := 27) dX0_build_27 rfl ?_
  refine r_getf (pc := 28) (k := 1) dX0_build_28 hX0 eX0 (by decide) fX0_18 (fun _ q => q.1.o) rfl ?_
  refine r_aload_n (pc := 31) dX0_build_31 rfl ?_
  refine r_getf (pc := 32) (k := 2) dX0_build_32 hX0 eX0 (by decide) fX0_21 (fun _ q => q.1.o) rfl ?_
  refine r_aload_n (pc := 35) dX0_build_35 rfl ?_
  refine r_getf (pc := 36) (k := 3) dX0_build_36 hX0 eX0 (by decide) fX0_25 (fun _ q => q.1.o) rfl ?_
  refine r_imul (pc := 39) dX0_build_39 ?_
  refine r_iconst (pc := 40) (v := 0) dX0_build_40 (by decide) ?_
  refine r_Vv (pc := 41) (μ' := mX5_fill) dX0_build_41 nX0_46 iX5_fill vX5_fill kX5_fill rfl rfl (rr (by decide) rfl) rfl ⟨Nat.zero_le _, Nat.zero_le _⟩ (fun g' q => ct_Row_fill (P' := fun g' => CeilI c nr ns mi he le wh si ca (List.replicate (clampI (nr * ns) 36) (-1)) (List.replicate (clampI (nr * ns) 36) 0) g' ∧ Off c 5 g g') q.1.2.2.2 (fun g2 a b => ⟨q.1.setT a b, q.2.tr (b.wide (by omega) (by omega))⟩)) ?_
  refine r_return (pc := 44) dX0_build_44 rfl ⟨Nat.zero_le _, Nat.zero_le _⟩ (fun gE hg => ?_)
  exact ⟨rfl, hP _ hg.1 hg.2⟩
end CeilL
