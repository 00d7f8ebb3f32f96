/-! HANDS (OneGoCeiling$Crew) and SHEETS (OneGoCeiling$Sheet) -/
def CrewAt (c : Nat) (ks ms : List Int32) (g : AH) : Prop := c < g.1 ∧ g.2 c = .inr (.inr (1, [.ref (c + 1), .ref (c + 3)])) ∧ RowAt (c + 1) 6 ks g ∧ RowAt (c + 3) 6 ms g
theorem CrewAt.o {c : Nat} {ks ms : List Int32} {g : AH} (q : CrewAt c ks ms g) : c < g.1 ∧ g.2 c = .inr (.inr (1, [.ref (c + 1), .ref (c + 3)])) := ⟨q.1, q.2.1⟩
theorem CrewAt.V {c : Nat} {ks ms : List Int32} {g : AH} (q : CrewAt c ks ms g) : ∃ (fs : List Value) (T : u_T) (N : Nat), c < g.1 ∧ g.2 c = .inr (.inr (1, fs)) ∧ vwCl[1]? = some (RX1, T, N) := ⟨_, _, _, q.1, q.2.1, rfl⟩
theorem CrewAt.off {c : Nat} {ks ms : List Int32} {h g : AH} (q : CrewAt c ks ms h) {lo w : Nat} (o : Off lo w h g) (hd : c + 5 ≤ lo ∨ lo + w ≤ c) : CrewAt c ks ms g :=
  ⟨by rw [o.1]; exact q.1, by rw [o.2 c (by omega)]; exact q.2.1, q.2.2.1.off o (by omega), q.2.2.2.off o (by omega)⟩
theorem CrewAt.setK {c : Nat} {ks ms ks' : List Int32} {h g : AH} (q : CrewAt c ks ms h) (hR : RowAt (c + 1) 6 ks' g) (o : Off (c + 1) 2 h g) : CrewAt c ks' ms g :=
  ⟨by rw [o.1]; exact q.1, by rw [o.2 c (by omega)]; exact q.2.1, hR, q.2.2.2.off o (by omega)⟩
theorem CrewAt.setM {c : Nat} {ks ms ms' : List Int32} {h g : AH} (q : CrewAt c ks ms h) (hR : RowAt (c + 3) 6 ms' g) (o : Off (c + 3) 2 h g) : CrewAt c ks ms' g :=
  ⟨by rw [o.1]; exact q.1, by rw [o.2 c (by omega)]; exact q.2.1, q.2.2.1.off o (by omega), hR⟩
set_option maxHeartbeats 4000000 in
theorem ct_Crew_size {c : Nat} {ks ms : List Int32} {g : AH} {P' : AH → Prop} (hR : CrewAt c ks ms g) (hP : P' g) : CV 2 0 0 mX1_size c [] g (fun v g' => v = some (.int (nI ks.length)) ∧ P' g') := by
  refine ⟨hR.V, ?_⟩
  refine ct_of (by decide) (fun _ _ => Nat.le_of_ble_eq_true rfl) ?_
  dsimp only [pad, ent]
  refine aw_P (P' := fun g' => CrewAt c ks ms g' ∧ g' = g) (fun g' e => by subst e; exact ⟨hR, rfl⟩) ?_
  refine r_aload_n (pc := 0) dX1_size_0 rfl ?_
  refine r_getf (pc := 1) (k := 0) dX1_size_1 hX1 eX1 (by decide) fX1_14 (fun _ q => q.1.o) rfl ?_
  refine r_Vi (pc := 4) (μ' := mX5_length) dX1_size_4 nX1_21 iX5_length vX5_length kX5_length rfl rfl (rr (by decide) rfl) rfl ⟨Nat.zero_le _, Nat.zero_le _⟩ (fun g' q => ct_Row_length q.1.2.2.1 q) ?_
  refine r_ireturn (pc := 7) (ty := .int) dX1_size_7 rfl rfl ⟨Nat.zero_le _, Nat.zero_le _⟩ (fun gE hg => ?_)
  exact ⟨rfl, by rw [hg.2]; exact hP⟩
theorem nI_lt6 {n : Nat} (h : n ≤ 4000) : nI n < 6 ↔ n < 6 := by rw [fa_lt, nI_T h, show (6 : Int32).toInt = 6 from rfl]; omega
set_option maxHeartbeats 4000000 in
theorem ct_Crew_isFull {c : Nat} {ks ms : List Int32} {g : AH} {P' : AH → Prop} (hR : CrewAt c ks ms g) (hP : P' g) : CV 3 0 0 mX1_isFull c [] g (fun v g' => v = some (.int (b2i (decide (ks.length = 6)))) ∧ P' g') := by
  refine ⟨hR.V, ?_⟩
  refine ct_of (by decide) (fun _ _ => Nat.le_of_ble_eq_true rfl) ?_
  dsimp only [pad, ent]
  have hl := hR.2.2.1.2.1
  refine aw_P (P' := fun g' => CrewAt c ks ms g' ∧ g' = g) (fun g' e => by subst e; exact ⟨hR, rfl⟩) ?_
  refine r_aload_n (pc := 0) dX1_isFull_0 rfl ?_
  refine r_Vi (pc := 1) (μ' := mX1_size) dX1_isFull_1 nX1_25 iX1_size vX1_size kX1_size rfl rfl (rr (by decide) rfl) rfl ⟨Nat.zero_le _, Nat.zero_le _⟩ (fun g' q => ct_Crew_size q.1 q) ?_
  refine r_bipush (pc := 4) (v := 6) dX1_isFull_4 (by decide) ?_
  refine r_icmp_lt (pc := 6) 13 dX1_isFull_6 (by decide) (fun c6 => ?_) (fun c6 => ?_)
  · skip
    have k6 := (nI_lt6 (by omega)).mp c6
    refine r_iconst (pc := 13) (v := 0) dX1_isFull_13 (by decide) ?_
    refine r_ireturn (pc := 14) (ty := .boolean) dX1_isFull_14 rfl rfl ⟨Nat.zero_le _, Nat.zero_le _⟩ (fun gE hg => ?_)
    refine ⟨?_, by rw [hg.2]; exact hP⟩
    first
    | (rw [decide_eq_true (by omega)]; rfl)
    | (rw [decide_eq_false (by omega)]; rfl)
  · skip
    have k6 : ¬ ks.length < 6 := fun q => c6 ((nI_lt6 (by omega)).mpr q)
    refine r_iconst (pc := 9) (v := 1) dX1_isFull_9 (by decide) ?_
    refine r_goto (pc := 10) 14 dX1_isFull_10 (by decide) ?_
    refine r_ireturn (pc := 14) (ty := .boolean) dX1_isFull_14 rfl rfl ⟨Nat.zero_le _, Nat.zero_le _⟩ (fun gE hg => ?_)
    refine ⟨?_, by rw [hg.2]; exact hP⟩
    first
    | (rw [decide_eq_true (by omega)]; rfl)
    | (rw [decide_eq_false (by omega)]; rfl)
set_option maxHeartbeats 4000000 in
theorem ct_Crew_has {c : Nat} {ks ms : List Int32} {i : Int32} {g : AH} {P' : AH → Prop} (hR : CrewAt c ks ms g) (hP : P' g) : CV 2 0 0 mX1_has c [.int i] g (fun v g' => v = some (.int (b2i (hasL ks i))) ∧ P' g') := by
  refine ⟨hR.V, ?_⟩
  refine ct_of (by decide) (fun _ _ => Nat.le_of_ble_eq_true rfl) ?_
  dsimp only [pad, ent]
  refine aw_P (P' := fun g' => CrewAt c ks ms g' ∧ g' = g) (fun g' e => by subst e; exact ⟨hR, rfl⟩) ?_
  refine r_aload_n (pc := 0) dX1_has_0 rfl ?_
  refine r_getf (pc := 1) (k := 0) dX1_has_1 hX1 eX1 (by decide) fX1_14 (fun _ q => q.1.o) rfl ?_
  refine r_iload_n (pc := 4) dX1_has_4 rfl ?_
  refine r_Vi (pc := 5) (μ' := mX5_has) dX1_has_5 nX1_28 iX5_has vX5_has kX5_has rfl rfl (rr (by decide) rfl) rfl ⟨Nat.zero_le _, Nat.zero_le _⟩ (fun g' q => ct_Row_has q.1.2.2.1 q) ?_
  refine r_ireturn (pc := 8) (ty := .boolean) dX1_has_8 rfl (by cases hasL ks i <;> rfl) ⟨Nat.zero_le _, Nat.zero_le _⟩ (fun gE hg => ?_)
  exact ⟨rfl, by rw [hg.2]; exact hP⟩
set_option maxHeartbeats 4000000 in
theorem ct_Crew_kindOf {c : Nat} {ks ms : List Int32} {i : Int32} {g : AH} {P' : AH → Prop} (hR : CrewAt c ks ms g) (hP : P' g) : CV 2 0 0 mX1_kindOf c [.int i] g (fun v g' => v = some (.int (atL ks i)) ∧ P' g') := by
  refine ⟨hR.V, ?_⟩
  refine ct_of (by decide) (fun _ _ => Nat.le_of_ble_eq_true rfl) ?_
  dsimp only [pad, ent]
  refine aw_P (P' := fun g' => CrewAt c ks ms g' ∧ g' = g) (fun g' e => by subst e; exact ⟨hR, rfl⟩) ?_
  refine r_aload_n (pc := 0) dX1_kindOf_0 rfl ?_
  refine r_getf (pc := 1) (k := 0) dX1_kindOf_1 hX1 eX1 (by decide) fX1_14 (fun _ q => q.1.o) rfl ?_
  refine r_iload_n (pc := 4) dX1_kindOf_4 rfl ?_
  refine r_Vi (pc := 5) (μ' := mX5_at) dX1_kindOf_5 nX1_32 iX5_at vX5_at kX5_at rfl rfl (rr (by decide) rfl) rfl ⟨Nat.zero_le _, Nat.zero_le _⟩ (fun g' q => ct_Row_at q.1.2.2.1 q) ?_
  refine r_ireturn (pc := 8) (ty := .int) dX1_kindOf_8 rfl rfl ⟨Nat.zero_le _, Nat.zero_le _⟩ (fun gE hg => ?_)
  exact ⟨rfl, by rw [hg.2]; exact hP⟩
set_option maxHeartbeats 4000000 in
theorem ct_Crew_numberOf {c : Nat} {ks ms : List Int32} {i : Int32} {g : AH} {P' : AH → Prop} (hR : CrewAt c ks ms g) (hP : P' g) : CV 2 0 0 mX1_numberOf c [.int i] g (fun v g' => v = some (.int (atL ms i)) ∧ P' g') := by
  refine ⟨hR.V, ?_⟩
  refine ct_of (by decide) (fun _ _ => Nat.le_of_ble_eq_true rfl) ?_
  dsimp only [pad, ent]
  refine aw_P (P' := fun g' => CrewAt c ks ms g' ∧ g' = g) (fun g' e => by subst e; exact ⟨hR, rfl⟩) ?_
  refine r_aload_n (pc := 0) dX1_numberOf_0 rfl ?_
  refine r_getf (pc := 1) (k := 1) dX1_numberOf_1 hX1 eX1 (by decide) fX1_18 (fun _ q => q.1.o) rfl ?_
  refine r_iload_n (pc := 4) dX1_numberOf_4 rfl ?_
  refine r_Vi (pc := 5) (μ' := mX5_at) dX1_numberOf_5 nX1_32 iX5_at vX5_at kX5_at rfl rfl (rr (by decide) rfl) rfl ⟨Nat.zero_le _, Nat.zero_le _⟩ (fun g' q => ct_Row_at q.1.2.2.2 q) ?_
  refine r_ireturn (pc := 8) (ty := .int) dX1_numberOf_8 rfl rfl ⟨Nat.zero_le _, Nat.zero_le _⟩ (fun gE hg => ?_)
  exact ⟨rfl, by rw [hg.2]; exact hP⟩
set_option maxHeartbeats 4000000 in
theorem ct_Crew_join {c : Nat} {ks ms : List Int32} {km : Int32} {g : AH} {P' : AH → Prop} (hR : CrewAt c ks ms g) (hP : ∀ g', CrewAt c (addL 6 ks (km / 10)) (addL 6 ms (km % 10)) g' → Off c 5 g g' → P' g') : CV 3 0 0 mX1_join c [.int km] g (fun v g' => v = some (.int (nI (addL 6 ks (km / 10)).length - 1)) ∧ P' g') := by
  refine ⟨hR.V, ?_⟩
  refine ct_of (by decide) (fun _ _ => Nat.le_of_ble_eq_true rfl) ?_
  dsimp only [pad, ent]
  refine aw_P (P' := fun g' => CrewAt c ks ms g' ∧ Off c 5 g g') (fun g' e => by subst e; exact ⟨hR, Off.rf _ _ _⟩) ?_
  refine r_aload_n (pc := 0) dX1_join_0 rfl ?_
  refine r_getf (pc := 1) (k := 0) dX1_join_1 hX1 eX1 (by decide) fX1_14 (fun _ q => q.1.o) rfl ?_
  refine r_iload_n (pc := 4) dX1_join_4 rfl ?_
  refine r_bipush (pc := 5) (v := 10) dX1_join_5 (by decide) ?_
  refine r_idiv (pc := 7) dX1_join_7 (by decide) ?_
  refine r_Vi (pc := 8) (μ' := mX5_add) dX1_join_8 nX1_36 iX5_add vX5_add kX5_add rfl rfl (rr (by decide) rfl) rfl ⟨Nat.zero_le _, Nat.zero_le _⟩ (fun g' q => ct_Row_add (P' := fun g' => CrewAt c (addL 6 ks (km / 10)) ms g' ∧ Off c 5 g g') q.1.2.2.1 (fun g2 a b => ⟨q.1.setK a b, q.2.tr (b.wide (by omega) (by omega))⟩)) ?_
  refine r_pop (pc := 11) dX1_join_11 rfl ?_
  refine r_aload_n (pc := 12) dX1_join_12 rfl ?_
  refine r_getf (pc := 13) (k := 1) dX1_join_13 hX1 eX1 (by decide) fX1_18 (fun _ q => q.1.o) rfl ?_
  refine r_iload_n (pc := 16) dX1_join_16 rfl ?_
  refine r_bipush (pc := 17) (v := 10) dX1_join_17 (by decide) ?_
  refine r_irem' (pc := 19) dX1_join_19 (by decide) ?_
  refine r_Vi (pc := 20) (μ' := mX5_add) dX1_join_20 nX1_36 iX5_add vX5_add kX5_add rfl rfl (rr (by decide) rfl) rfl ⟨Nat.zero_le _, Nat.zero_le _⟩ (fun g' q => ct_Row_add (P' := fun g' => CrewAt c (addL 6 ks (km / 10)) (addL 6 ms (km % 10)) g' ∧ Off c 5 g g') q.1.2.2.2 (fun g2 a b => ⟨q.1.setM a b, q.2.tr (b.wide (by omega) (by omega))⟩)) ?_
  refine r_pop (pc := 23) dX1_join_23 rfl ?_
  refine r_aload_n (pc := 24) dX1_join_24 rfl ?_
  refine r_Vi (pc := 25) (μ' := mX1_size) dX1_join_25 nX1_25 iX1_size vX1_size kX1_size rfl rfl (rr (by decide) rfl) rfl ⟨Nat.zero_le _, Nat.zero_le _⟩ (fun g' q => ct_Crew_size q.1 q) ?_
  refine r_iconst (pc := 28) (v := 1) dX1_join_28 (by decide) ?_
  refine r_isub (pc := 29) dX1_join_29 ?_
  refine r_ireturn (pc := 30) (ty := .int) dX1_join_30 rfl rfl ⟨Nat.zero_le _, Nat.zero_le _⟩ (fun gE hg => ?_)
  exact ⟨rfl, hP _ hg.1 hg.2⟩
set_option maxHeartbeats 4000000 in
theorem ct_Crew_turnInto {c : Nat} {ks ms : List Int32} {i km : Int32} {g : AH} {P' : AH → Prop} (hR : CrewAt c ks ms g) (hP : ∀ g', CrewAt c (wrL ks i (km / 10)) (wrL ms i (km % 10)) g' → Off c 5 g g' → P' g') : CV 3 0 0 mX1_turnInto c [.int i, .int km] g (fun v g' => v = some (.int (atL ks i)) ∧ P' g') := by
  refine ⟨hR.V, ?_⟩
  refine ct_of (by decide) (fun _ _ => Nat.le_of_ble_eq_true rfl) ?_
  dsimp only [pad, ent]
  refine aw_P (P' := fun g' => CrewAt c ks ms g' ∧ Off c 5 g g') (fun g' e => by subst e; exact ⟨hR, Off.rf _ _ _⟩) ?_
  refine r_aload_n (pc := 0) dX1_turnInto_0 rfl ?_
  refine r_iload_n (pc := 1) dX1_turnInto_1 rfl ?_
  refine r_Vi (pc := 2) (μ' := mX1_kindOf) dX1_turnInto_2 nX1_39 iX1_kindOf vX1_kindOf kX1_kindOf rfl rfl (rr (by decide) rfl) rfl ⟨Nat.zero_le _, Nat.zero_le _⟩ (fun g' q => ct_Crew_kindOf q.1 q) ?_
  refine r_istore_n (pc := 5) dX1_turnInto_5 rfl (Nat.le_of_ble_eq_true rfl) rfl ?_
  dsimp only [lset]
  refine r_aload_n (pc := 6) dX1_turnInto_6 rfl ?_
  refine r_getf (pc := 7) (k := 0) dX1_turnInto_7 hX1 eX1 (by decide) fX1_14 (fun _ q => q.1.o) rfl ?_
  refine r_iload_n (pc := 10) dX1_turnInto_10 rfl ?_
  refine r_iload_n (pc := 11) dX1_turnInto_11 rfl ?_
  refine r_bipush (pc := 12) (v := 10) dX1_turnInto_12 (by decide) ?_
  refine r_idiv (pc := 14) dX1_turnInto_14 (by decide) ?_
  refine r_Vv (pc := 15) (μ' := mX5_write) dX1_turnInto_15 nX1_42 iX5_write vX5_write kX5_write rfl rfl (rr (by decide) rfl) rfl ⟨Nat.zero_le _, Nat.zero_le _⟩ (fun g' q => ct_Row_write (P' := fun g' => CrewAt c (wrL ks i (km / 10)) ms g' ∧ Off c 5 g g') q.1.2.2.1 (fun g2 a b => ⟨q.1.setK a b, q.2.tr (b.wide (by omega) (by omega))⟩)) ?_
  refine r_aload_n (pc := 18) dX1_turnInto_18 rfl ?_
  refine r_getf (pc := 19) (k := 1) dX1_turnInto_19 hX1 eX1 (by decide) fX1_18 (fun _ q => q.1.o) rfl ?_
  refine r_iload_n (pc := 22) dX1_turnInto_22 rfl ?_
  refine r_iload_n (pc := 23) dX1_turnInto_23 rfl ?_
  refine r_bipush (pc := 24) (v := 10) dX1_turnInto_24 (by decide) ?_
  refine r_irem' (pc := 26) dX1_turnInto_26 (by decide) ?_
  refine r_Vv (pc := 27) (μ' := mX5_write) dX1_turnInto_27 nX1_42 iX5_write vX5_write kX5_write rfl rfl (rr (by decide) rfl) rfl ⟨Nat.zero_le _, Nat.zero_le _⟩ (fun g' q => ct_Row_write (P' := fun g' => CrewAt c (wrL ks i (km / 10)) (wrL ms i (km % 10)) g' ∧ Off c 5 g g') q.1.2.2.2 (fun g2 a b => ⟨q.1.setM a b, q.2.tr (b.wide (by omega) (by omega))⟩)) ?_
  refine r_iload_n (pc := 30) dX1_turnInto_30 rfl ?_
  refine r_ireturn (pc := 31) (ty := .int) dX1_turnInto_31 rfl rfl ⟨Nat.zero_le _, Nat.zero_le _⟩ (fun gE hg => ?_)
  exact ⟨rfl, hP _ hg.1 hg.2⟩
theorem take_all {l : List Int32} {n : Nat} (h : l.length ≤ n) : l.take n = l := List.take_of_length_le h
set_option maxHeartbeats 4000000 in
theorem ct_Crew_take {c c2 : Nat} {ks ms ks2 ms2 : List Int32} {g : AH} {P' : AH → Prop} (hR : CrewAt c ks ms g) (hR2 : CrewAt c2 ks2 ms2 g) (hd : c + 5 ≤ c2 ∨ c2 + 5 ≤ c) (hP : ∀ g', CrewAt c ks2 ms2 g' → Off c 5 g g' → P' g') : CV 3 0 0 mX1_take c [.ref c2] g (fun v g' => v = none ∧ P' g') := by
  refine ⟨hR.V, ?_⟩
  refine ct_of (by decide) (fun _ _ => Nat.le_of_ble_eq_true rfl) ?_
  dsimp only [pad, ent]
  have hl1 := hR2.2.2.1.2.1
  have hl2 := hR2.2.2.2.2.1
  refine aw_P (P' := fun g' => CrewAt c ks ms g' ∧ Off c 5 g g') (fun g' e => by subst e; exact ⟨hR, Off.rf _ _ _⟩) ?_
  refine r_aload_n (pc := 0) dX1_take_0 rfl ?_
  refine r_getf (pc := 1) (k := 0) dX1_take_1 hX1 eX1 (by decide) fX1_14 (fun _ q => q.1.o) rfl ?_
  refine r_aload_n (pc := 4) dX1_take_4 rfl ?_
  refine r_getf (pc := 5) (k := 0) dX1_take_5 hX1 eX1 (by decide) fX1_14 (fun _ q => (hR2.off q.2 (by omega)).o) rfl ?_
  refine r_Vv (pc := 8) (μ' := mX5_take) dX1_take_8 nX1_46 iX5_take vX5_take kX5_take rfl rfl (rr (by decide) rfl) rfl ⟨Nat.zero_le _, Nat.zero_le _⟩ (fun g' q => ct_Row_take (P' := fun g' => CrewAt c ks2 ms g' ∧ Off c 5 g g') q.1.2.2.1 (hR2.off q.2 (by omega)).2.2.1 (by omega) (fun g2 a b => by rw [take_all hl1] at a; exact ⟨q.1.setK a b, q.2.tr (b.wide (by omega) (by omega))⟩)) ?_
  refine r_aload_n (pc := 11) dX1_take_11 rfl ?_
  refine r_getf (pc := 12) (k := 1) dX1_take_12 hX1 eX1 (by decide) fX1_18 (fun _ q => q.1.o) rfl ?_
  refine r_aload_n (pc := 15) dX1_take_15 rfl ?_
  refine r_getf (pc := 16) (k := 1) dX1_take_16 hX1 eX1 (by decide) fX1_18 (fun _ q => (hR2.off q.2 (by omega)).o) rfl ?_
  refine r_Vv (pc := 19) (μ' := mX5_take) dX1_take_19 nX1_46 iX5_take vX5_take kX5_take rfl rfl (rr (by decide) rfl) rfl ⟨Nat.zero_le _, Nat.zero_le _⟩ (fun g' q => ct_Row_take (P' := fun g' => CrewAt c ks2 ms2 g' ∧ Off c 5 g g') q.1.2.2.2 (hR2.off q.2 (by omega)).2.2.2 (by omega) (fun g2 a b => by rw [take_all hl2] at a; exact ⟨q.1.setM a b, q.2.tr (b.wide (by omega) (by omega))⟩)) ?_
  refine r_return (pc := 22) dX1_take_22 rfl ⟨Nat.zero_le _, Nat.zero_le _⟩ (fun gE hg => ?_)
  exact ⟨rfl, hP _ hg.1 hg.2⟩
-- ===== sheets =====
def SheetAt (s : Nat) (bits : Int32) (l : List Int32) (g : AH) : Prop := s < g.1 ∧ g.2 s = .inr (.inr (5, [.ref (s + 1), .int bits])) ∧ RowAt (s + 1) 40 l g
theorem SheetAt.o {s : Nat} {bits : Int32} {l : List Int32} {g : AH} (q : SheetAt s bits l g) : s < g.1 ∧ g.2 s = .inr (.inr (5, [.ref (s + 1), .int bits])) := ⟨q.1, q.2.1⟩
theorem SheetAt.V {s : Nat} {bits : Int32} {l : List Int32} {g : AH} (q : SheetAt s bits l g) : ∃ (fs : List Value) (T : u_T) (N : Nat), s < g.1 ∧ g.2 s = .inr (.inr (5, fs)) ∧ vwCl[5]? = some (RX6, T, N) := ⟨_, _, _, q.1, q.2.1, rfl⟩
theorem SheetAt.off {s : Nat} {bits : Int32} {l : List Int32} {h g : AH} (q : SheetAt s bits l h) {lo w : Nat} (o : Off lo w h g) (hd : s + 3 ≤ lo ∨ lo + w ≤ s) : SheetAt s bits l g :=
  ⟨by rw [o.1]; exact q.1, by rw [o.2 s (by omega)]; exact q.2.1, q.2.2.off o (by omega)⟩
theorem SheetAt.setL {s : Nat} {bits : Int32} {l l' : List Int32} {h g : AH} (q : SheetAt s bits l h) (hR : RowAt (s + 1) 40 l' g) (o : Off (s + 1) 2 h g) : SheetAt s bits l' g :=
  ⟨by rw [o.1]; exact q.1, by rw [o.2 s (by omega)]; exact q.2.1, hR⟩
theorem Off.set {h g : AH} {lo w i : Nat} {x : AE} (o : Off lo w h g) (h1 : lo ≤ i) (h2 : i < lo + w) : Off lo w h (hset g i x) := ⟨o.1, fun j hj => by rw [hset_ne _ _ (by omega)]; exact o.2 j hj⟩
theorem Off.one {g : AH} {i : Nat} {x : AE} : Off i 1 g (hset g i x) := ⟨rfl, fun j hj => hset_ne _ _ (by omega)⟩
theorem SheetAt.putB {s : Nat} {bits bits' : Int32} {l : List Int32} {g : AH} (q : SheetAt s bits l g) : SheetAt s bits' l (hset g s (.inr (.inr (5, [.ref (s + 1), .int bits'])))) :=
  ⟨q.1, hset_same _ _ _, q.2.2.off Off.one (by omega)⟩
set_option maxHeartbeats 4000000 in
theorem ct_Sheet_isWidth {k : Int32} (g : AH) : CT 1 0 0 mX6_isWidth [.int k] g (fun v g' => v = some (.int (b2i (decide (k = 0 ∨ k = 8 ∨ k = 16 ∨ k = 32)))) ∧ g' = g) := by
  refine ct_of (by decide) (fun _ _ => Nat.le_of_ble_eq_true rfl) ?_
  dsimp only [pad, ent]
  refine r_iload_n (pc := 0) dX6_isWidth_0 rfl ?_
  refine r_if_eq (pc := 1) 22 dX6_isWidth_1 (by decide) (fun c1 => ?_) (fun c1 => ?_)
  · skip
    refine r_iconst (pc := 22) (v := 1) dX6_isWidth_22 (by decide) ?_
    refine r_goto (pc := 23) 27 dX6_isWidth_23 (by decide) ?_
    refine r_ireturn (pc := 27) (ty := .boolean) dX6_isWidth_27 rfl rfl ⟨Nat.zero_le _, Nat.zero_le _⟩ (fun gE hg => ?_)
    refine ⟨?_, hg⟩
    first
    | (rw [decide_eq_true (by simp only [*, true_or, or_true])]; rfl)
    | (rw [decide_eq_false (by simp only [*, or_self, not_false_eq_true])]; rfl)
  · skip
    refine r_iload_n (pc := 4) dX6_isWidth_4 rfl ?_
    refine r_bipush (pc := 5) (v := 8) dX6_isWidth_5 (by decide) ?_
    refine r_icmp_eq (pc := 7) 22 dX6_isWidth_7 (by decide) (fun c7 => ?_) (fun c7 => ?_)
    · skip
      refine r_iconst (pc := 22) (v := 1) dX6_isWidth_22 (by decide) ?_
      refine r_goto (pc := 23) 27 dX6_isWidth_23 (by decide) ?_
      refine r_ireturn (pc := 27) (ty := .boolean) dX6_isWidth_27 rfl rfl ⟨Nat.zero_le _, Nat.zero_le _⟩ (fun gE hg => ?_)
      refine ⟨?_, hg⟩
      first
      | (rw [decide_eq_true (by simp only [*, true_or, or_true])]; rfl)
      | (rw [decide_eq_false (by simp only [*, or_self, not_false_eq_true])]; rfl)
    · skip
      refine r_iload_n (pc := 10) dX6_isWidth_10 rfl ?_
      refine r_bipush (pc := 11) (v := 16) dX6_isWidth_11 (by decide) ?_
      refine r_icmp_eq (pc := 13) 22 dX6_isWidth_13 (by decide) (fun c13 => ?_) (fun c13 => ?_)
      · skip
        refine r_iconst (pc := 22) (v := 1) dX6_isWidth_22 (by decide) ?_
        refine r_goto (pc := 23) 27 dX6_isWidth_23 (by decide) ?_
        refine r_ireturn (pc := 27) (ty := .boolean) dX6_isWidth_27 rfl rfl ⟨Nat.zero_le _, Nat.zero_le _⟩ (fun gE hg => ?_)
        refine ⟨?_, hg⟩
        first
        | (rw [decide_eq_true (by simp only [*, true_or, or_true])]; rfl)
        | (rw [decide_eq_false (by simp only [*, or_self, not_false_eq_true])]; rfl)
      · skip
        refine r_iload_n (pc := 16) dX6_isWidth_16 rfl ?_
        refine r_bipush (pc := 17) (v := 32) dX6_isWidth_17 (by decide) ?_
        refine r_icmp_ne (pc := 19) 26 dX6_isWidth_19 (by decide) (fun c19 => ?_) (fun c19 => ?_)
        · skip
          refine r_iconst (pc := 26) (v := 0) dX6_isWidth_26 (by decide) ?_
          refine r_ireturn (pc := 27) (ty := .boolean) dX6_isWidth_27 rfl rfl ⟨Nat.zero_le _, Nat.zero_le _⟩ (fun gE hg => ?_)
          refine ⟨?_, hg⟩
          first
          | (rw [decide_eq_true (by simp only [*, true_or, or_true])]; rfl)
          | (rw [decide_eq_false (by simp only [*, or_self, not_false_eq_true])]; rfl)
        · skip
          refine r_iconst (pc := 22) (v := 1) dX6_isWidth_22 (by decide) ?_
          refine r_goto (pc := 23) 27 dX6_isWidth_23 (by decide) ?_
          refine r_ireturn (pc := 27) (ty := .boolean) dX6_isWidth_27 rfl rfl ⟨Nat.zero_le _, Nat.zero_le _⟩ (fun gE hg => ?_)
          refine ⟨?_, hg⟩
          first
          | (rw [decide_eq_true (by simp only [*, true_or, or_true])]; rfl)
          | (rw [decide_eq_false (by simp only [*, or_self, not_false_eq_true])]; rfl)
set_option maxHeartbeats 4000000 in
theorem ct_Sheet_isMissing {s : Nat} {bits : Int32} {l : List Int32} {g : AH} {P' : AH → Prop} (hR : SheetAt s bits l g) (hP : P' g) : CV 1 0 0 mX6_isMissing s [] g (fun v g' => v = some (.int (b2i (decide (bits = 0)))) ∧ P' g') := by
  refine ⟨hR.V, ?_⟩
  refine ct_of (by decide) (fun _ _ => Nat.le_of_ble_eq_true rfl) ?_
  dsimp only [pad, ent]
  refine aw_P (P' := fun g' => SheetAt s bits l g' ∧ g' = g) (fun g' e => by subst e; exact ⟨hR, rfl⟩) ?_
  refine r_aload_n (pc := 0) dX6_isMissing_0 rfl ?_
  refine r_getf (pc := 1) (k := 1) dX6_isMissing_1 hX6 eX6 (by decide) fX6_18 (fun _ q => q.1.o) rfl ?_
  refine r_if_ne (pc := 4) 11 dX6_isMissing_4 (by decide) (fun c4 => ?_) (fun c4 => ?_)
  · skip
    refine r_iconst (pc := 11) (v := 0) dX6_isMissing_11 (by decide) ?_
    refine r_ireturn (pc := 12) (ty := .boolean) dX6_isMissing_12 rfl rfl ⟨Nat.zero_le _, Nat.zero_le _⟩ (fun gE hg => ?_)
    refine ⟨?_, by rw [hg.2]; exact hP⟩
    first
    | (rw [decide_eq_true c4]; rfl)
    | (rw [decide_eq_false c4]; rfl)
  · skip
    refine r_iconst (pc := 7) (v := 1) dX6_isMissing_7 (by decide) ?_
    refine r_goto (pc := 8) 12 dX6_isMissing_8 (by decide) ?_
    refine r_ireturn (pc := 12) (ty := .boolean) dX6_isMissing_12 rfl rfl ⟨Nat.zero_le _, Nat.zero_le _⟩ (fun gE hg => ?_)
    refine ⟨?_, by rw [hg.2]; exact hP⟩
    first
    | (rw [decide_eq_true c4]; rfl)
    | (rw [decide_eq_false c4]; rfl)
set_option maxHeartbeats 4000000 in
theorem ct_Sheet_bits {s : Nat} {bits : Int32} {l : List Int32} {g : AH} {P' : AH → Prop} (hR : SheetAt s bits l g) (hP : P' g) : CV 1 0 0 mX6_bits s [] g (fun v g' => v = some (.int bits) ∧ P' g') := by
  refine ⟨hR.V, ?_⟩
  refine ct_of (by decide) (fun _ _ => Nat.le_of_ble_eq_true rfl) ?_
  dsimp only [pad, ent]
  refine aw_P (P' := fun g' => SheetAt s bits l g' ∧ g' = g) (fun g' e => by subst e; exact ⟨hR, rfl⟩) ?_
  refine r_aload_n (pc := 0) dX6_bits_0 rfl ?_
  refine r_getf (pc := 1) (k := 1) dX6_bits_1 hX6 eX6 (by decide) fX6_18 (fun _ q => q.1.o) rfl ?_
  refine r_ireturn (pc := 4) (ty := .int) dX6_bits_4 rfl rfl ⟨Nat.zero_le _, Nat.zero_le _⟩ (fun gE hg => ?_)
  exact ⟨rfl, by rw [hg.2]; exact hP⟩
set_option maxHeartbeats 4000000 in
theorem ct_Sheet_remove {s : Nat} {bits : Int32} {l : List Int32} {g : AH} {P' : AH → Prop} (hR : SheetAt s bits l g) (hP : ∀ g', SheetAt s 0 [] g' → Off s 3 g g' → P' g') : CV 2 0 0 mX6_remove s [] g (fun v g' => v = none ∧ P' g') := by
  refine ⟨hR.V, ?_⟩
  refine ct_of (by decide) (fun _ _ => Nat.le_of_ble_eq_true rfl) ?_
  dsimp only [pad, ent]
  refine aw_P (P' := fun g' => SheetAt s bits l g' ∧ Off s 3 g g') (fun g' e => by subst e; exact ⟨hR, Off.rf _ _ _⟩) ?_
  refine r_aload_n (pc := 0) dX6_remove_0 rfl ?_
  refine r_iconst (pc := 1) (v := 0) dX6_remove_1 (by decide) ?_
  refine r_putf (pc := 2) (k := 1) (P' := fun g' => SheetAt s 0 l g' ∧ Off s 3 g g') tyX6 dX6_remove_2 hX6 tyX6_ok nmX6 eX6 (by decide) fX6_18 rfl rfl (fun _ _ => rfl) (fun _ _ => rfl) (Nat.le_of_ble_eq_true rfl) (fun _ q => q.1.o) (fun _ q => ⟨q.1.putB, q.2.set (by omega) (by omega)⟩) ?_
  refine r_aload_n (pc := 5) dX6_remove_5 rfl ?_
  refine r_getf (pc := 6) (k := 0) dX6_remove_6 hX6 eX6 (by decide) fX6_14 (fun _ q => q.1.o) rfl ?_
  refine r_Vv (pc := 9) (μ' := mX5_clear) dX6_remove_9 nX6_22 iX5_clear vX5_clear kX5_clear rfl rfl (rr (by decide) rfl) rfl ⟨Nat.zero_le _, Nat.zero_le _⟩ (fun g' q => ct_Row_clear (P' := fun g' => SheetAt s 0 [] g' ∧ Off s 3 g g') q.1.2.2 (fun g2 a b => ⟨q.1.setL a b, q.2.tr (b.wide (by omega) (by omega))⟩)) ?_
  refine r_return (pc := 12) dX6_remove_12 rfl ⟨Nat.zero_le _, Nat.zero_le _⟩ (fun gE hg => ?_)
  exact ⟨rfl, hP _ hg.1 hg.2⟩
set_option maxHeartbeats 4000000 in
theorem ct_Sheet_renew {s : Nat} {bits nb n : Int32} {l : List Int32} {g : AH} {P' : AH → Prop} (hR : SheetAt s bits l g) (hP : ∀ g', SheetAt s nb (List.replicate (clampI n 40) 0) g' → Off s 3 g g' → P' g') : CV 3 0 0 mX6_renew s [.int nb, .int n] g (fun v g' => v = none ∧ P' g') := by
  refine ⟨hR.V, ?_⟩
  refine ct_of (by decide) (fun _ _ => Nat.le_of_ble_eq_true rfl) ?_
  dsimp only [pad, ent]
  refine aw_P (P' := fun g' => SheetAt s bits l g' ∧ Off s 3 g g') (fun g' e => by subst e; exact ⟨hR, Off.rf _ _ _⟩) ?_
  refine r_aload_n (pc := 0) dX6_renew_0 rfl ?_
  refine r_iload_n (pc := 1) dX6_renew_1 rfl ?_
  refine r_putf (pc := 2) (k := 1) (P' := fun g' => SheetAt s nb l g' ∧ Off s 3 g g') tyX6 dX6_renew_2 hX6 tyX6_ok nmX6 eX6 (by decide) fX6_18 rfl rfl (fun _ _ => rfl) (fun _ _ => rfl) (Nat.le_of_ble_eq_true rfl) (fun _ q => q.1.o) (fun _ q => ⟨q.1.putB, q.2.set (by omega) (by omega)⟩) ?_
  refine r_aload_n (pc := 5) dX6_renew_5 rfl ?_
  refine r_getf (pc := 6) (k := 0) dX6_renew_6 hX6 eX6 (by decide) fX6_14 (fun _ q => q.1.o) rfl ?_
  refine r_iload_n (pc := 9) dX6_renew_9 rfl ?_
  refine r_iconst (pc := 10) (v := 0) dX6_renew_10 (by decide) ?_
  refine r_Vv (pc := 11) (μ' := mX5_fill) dX6_renew_11 nX6_25 iX5_fill vX5_fill kX5_fill rfl rfl (rr (by decide) rfl) rfl ⟨Nat.zero_le _, Nat.zero_le _⟩ (fun g' q => ct_Row_fill (P' := fun g' => SheetAt s nb (List.replicate (clampI n 40) 0) g' ∧ Off s 3 g g') q.1.2.2 (fun g2 a b => ⟨q.1.setL a b, q.2.tr (b.wide (by omega) (by omega))⟩)) ?_
  refine r_return (pc := 14) dX6_renew_14 rfl ⟨Nat.zero_le _, Nat.zero_le _⟩ (fun gE hg => ?_)
  exact ⟨rfl, hP _ hg.1 hg.2⟩
def narI (bits v : Int32) : Int32 := if bits = 8 then v.toInt8.toInt32 else if bits = 16 then v.toInt16.toInt32 else v
set_option maxHeartbeats 4000000 in
theorem ct_Sheet_write {s : Nat} {bits i x : Int32} {l : List Int32} {g : AH} {P' : AH → Prop} (hR : SheetAt s bits l g) (hP : ∀ g', SheetAt s bits (wrL l i (narI bits x)) g' → Off s 3 g g' → P' g') : CV 2 0 0 mX6_write s [.int i, .int x] g (fun v g' => v = none ∧ P' g') := by
  refine ⟨hR.V, ?_⟩
  refine ct_of (by decide) (fun _ _ => Nat.le_of_ble_eq_true rfl) ?_
  dsimp only [pad, ent]
  unfold narI at hP
  refine aw_P (P' := fun g' => SheetAt s bits l g' ∧ Off s 3 g g') (fun g' e => by subst e; exact ⟨hR, Off.rf _ _ _⟩) ?_
  refine r_aload_n (pc := 0) dX6_write_0 rfl ?_
  refine r_getf (pc := 1) (k := 0) dX6_write_1 hX6 eX6 (by decide) fX6_14 (fun _ q => q.1.o) rfl ?_
  refine r_iload_n (pc := 4) dX6_write_4 rfl ?_
  refine r_aload_n (pc := 5) dX6_write_5 rfl ?_
  refine r_getf (pc := 6) (k := 1) dX6_write_6 hX6 eX6 (by decide) fX6_18 (fun _ q => q.1.o) rfl ?_
  refine r_bipush (pc := 9) (v := 8) dX6_write_9 (by decide) ?_
  refine r_icmp_ne (pc := 11) 19 dX6_write_11 (by decide) (fun c11 => ?_) (fun c11 => ?_)
  · skip
    rw [if_neg c11] at hP
    refine r_aload_n (pc := 19) dX6_write_19 rfl ?_
    refine r_getf (pc := 20) (k := 1) dX6_write_20 hX6 eX6 (by decide) fX6_18 (fun _ q => q.1.o) rfl ?_
    refine r_bipush (pc := 23) (v := 16) dX6_write_23 (by decide) ?_
    refine r_icmp_ne (pc := 25) 33 dX6_write_25 (by decide) (fun c25 => ?_) (fun c25 => ?_)
    · skip
      rw [if_neg c25] at hP
      refine r_iload_n (pc := 33) dX6_write_33 rfl ?_
      refine r_Vv (pc := 34) (μ' := mX5_write) dX6_write_34 nX6_29 iX5_write vX5_write kX5_write rfl rfl (rr (by decide) rfl) rfl ⟨Nat.zero_le _, Nat.zero_le _⟩ (fun g' q => ct_Row_write q.1.2.2 (fun g2 a b => hP g2 (q.1.setL a b) (q.2.tr (b.wide (by omega) (by omega))))) ?_
      refine r_return (pc := 37) dX6_write_37 rfl ⟨Nat.zero_le _, Nat.zero_le _⟩ (fun gE hg => ?_)
      exact ⟨rfl, hg⟩
    · skip
      rw [if_pos c25] at hP
      refine r_iload_n (pc := 28) dX6_write_28 rfl ?_
      refine r_i2s (pc := 29) dX6_write_29 ?_
      refine r_goto (pc := 30) 34 dX6_write_30 (by decide) ?_
      refine r_Vv (pc := 34) (μ' := mX5_write) dX6_write_34 nX6_29 iX5_write vX5_write kX5_write rfl rfl (rr (by decide) rfl) rfl ⟨Nat.zero_le _, Nat.zero_le _⟩ (fun g' q => ct_Row_write q.1.2.2 (fun g2 a b => hP g2 (q.1.setL a b) (q.2.tr (b.wide (by omega) (by omega))))) ?_
      refine r_return (pc := 37) dX6_write_37 rfl ⟨Nat.zero_le _, Nat.zero_le _⟩ (fun gE hg => ?_)
      exact ⟨rfl, hg⟩
  · skip
    rw [if_pos c11] at hP
    refine r_iload_n (pc := 14) dX6_write_14 rfl ?_
    refine r_i2b (pc := 15) dX6_write_15 ?_
    refine r_goto (pc := 16) 34 dX6_write_16 (by decide) ?_
    refine r_Vv (pc := 34) (μ' := mX5_write) dX6_write_34 nX6_29 iX5_write vX5_write kX5_write rfl rfl (rr (by decide) rfl) rfl ⟨Nat.zero_le _, Nat.zero_le _⟩ (fun g' q => ct_Row_write q.1.2.2 (fun g2 a b => hP g2 (q.1.setL a b) (q.2.tr (b.wide (by omega) (by omega))))) ?_
    refine r_return (pc := 37) dX6_write_37 rfl ⟨Nat.zero_le _, Nat.zero_le _⟩ (fun gE hg => ?_)
    exact ⟨rfl, hg⟩
