/-! the ceiling, further: white from a sheet, whens by a sheet, as another one is, ROLL -/
/-- how far p goes from 0 on, n at most -/
def stopAt (p : Nat → Bool) : Nat → Nat
  | 0 => 0
  | n + 1 => if stopAt p n = n ∧ p n = true then n + 1 else stopAt p n
theorem stopAt_le (p : Nat → Bool) : ∀ n, stopAt p n ≤ n
  | 0 => Nat.le_refl 0
  | n + 1 => by have := stopAt_le p n; rw [stopAt]; split <;> omega
theorem stopAt_all {p : Nat → Bool} : ∀ {n : Nat}, (∀ j, j < n → p j = true) → stopAt p n = n
  | 0, _ => rfl
  | n + 1, h => by rw [stopAt, if_pos ⟨stopAt_all (fun j hj => h j (by omega)), h n (by omega)⟩]
theorem stopAt_eq {p : Nat → Bool} {k : Nat} (h : ∀ j, j < k → p j = true) (hk : p k = false) : ∀ {n : Nat}, k < n → stopAt p n = k
  | 0, hn => absurd hn (Nat.not_lt_zero k)
  | n + 1, hn => by
    rw [stopAt]
    by_cases e : k = n
    · subst e; rw [stopAt_all h, if_neg (fun q => by rw [hk] at q; cases q.2)]
    · rw [stopAt_eq h hk (n := n) (by omega), if_neg (fun q => e q.1)]
section CeilM
variable {c r : Nat} {ro st mi he le wh si ca ro2 st2 mi2 he2 le2 wh2 si2 ca2 : Int32} {wn wt wn2 wt2 l : List Int32} {h g : AH} {P' : AH → Prop}
def goodW (l : List Int32) (j : Nat) : Bool := decide (0 ≤ (l.getD j 0).toInt ∧ (l.getD j 0).toInt ≤ 99)
set_option maxHeartbeats 4000000 in
theorem ct_Ceil_whiten {cap : Nat} (hR : CeilI c ro st mi he le wh si ca wn wt g) (hL : RowAt r cap l g) (hd : r + 2 ≤ c ∨ c + 5 ≤ r) (hP : ∀ g', CeilI c ro st mi he le wh si ca wn (mvL wt l 0 0 0 (stopAt (goodW l) (min l.length wt.length))) g' → Off c 5 g g' → P' g') : CV 2 0 0 mX0_whiten c [.ref r] g (fun v g' => v = some (.int (nI (stopAt (goodW l) (min l.length wt.length)))) ∧ P' g') := by
  have h1 := hL.2.1
  have h2 := hL.2.2.1
  have h3 := hR.2.2.2.2.1
  refine ⟨hR.V, ?_⟩
  refine ct_of (by decide) (fun _ _ => Nat.le_of_ble_eq_true rfl) ?_
  dsimp only [pad, ent]
  refine aw_P (P' := fun g' => CeilI c ro st mi he le wh si ca wn wt g' ∧ Off c 5 g g') (fun g' e => by subst e; exact ⟨hR, Off.rf _ _ _⟩) ?_
  obtain ⟨n, hn⟩ : ∃ n, n = min l.length wt.length := ⟨_, rfl⟩
  rw [← hn] at hP ⊢
  have hT := nI_T (n := n) (by omega)
  have L : ∀ k, k ≤ n → (∀ j, j < k → goodW l j = true) → AW (fun _ => True) (rmd 2 0 0) mX0_whiten 0 0 17 [some (.ref c), some (.ref r), some (.int (nI n)), some (.int (nI k)), none] [] (fun g' => CeilI c ro st mi he le wh si ca wn (mvL wt l 0 0 0 k) g' ∧ Off c 5 g g') (fun v g' => v = some (.int (nI (stopAt (goodW l) n))) ∧ P' g') := by
    refine up_loop ?_ ?_
    · intro hj
      rw [stopAt_all hj] at hP ⊢
      refine r_iload_n (pc := 17) dX0_whiten_17 rfl ?_
      refine r_iload_n (pc := 18) dX0_whiten_18 rfl ?_
      refine r_icmp_ge (pc := 19) 59 dX0_whiten_19 (by decide) (fun c19 => ?_) (fun c19 => ?_)
      · skip
        refine r_iload_n (pc := 59) dX0_whiten_59 rfl ?_
        refine r_ireturn (pc := 60) (ty := .int) dX0_whiten_60 rfl rfl ⟨Nat.zero_le _, Nat.zero_le _⟩ (fun gE hg => ?_)
        exact ⟨rfl, hP _ hg.1 hg.2⟩
      · skip
        exact absurd (fa_le.mpr (Int.le_refl _)) c19
    · intro k hk ih hj
      have hTk := nI_T (n := k) (by omega)
      refine r_iload_n (pc := 17) dX0_whiten_17 rfl ?_
      refine r_iload_n (pc := 18) dX0_whiten_18 rfl ?_
      refine r_icmp_ge (pc := 19) 59 dX0_whiten_19 (by decide) (fun c19 => ?_) (fun c19 => ?_)
      · skip
        exact absurd c19 (fun q => by have := fa_le.mp q; omega)
      · skip
        refine r_aload_n (pc := 22) dX0_whiten_22 rfl ?_
        refine r_iload_n (pc := 23) dX0_whiten_23 rfl ?_
        refine r_Vi (pc := 24) (μ' := mX5_at) dX0_whiten_24 nX0_61 iX5_at vX5_at kX5_at rfl rfl (rr (by decide) rfl) rfl ⟨Nat.zero_le _, Nat.zero_le _⟩ (fun g' q => ct_Row_at (hL.off q.2 (by omega)) q) ?_
        rw [atL_nI (show k ≤ 4000 by omega)]
        refine r_istore (pc := 27) dX0_whiten_27 (Nat.le_of_ble_eq_true rfl) rfl ?_
        dsimp only [lset]
        refine r_iload (pc := 29) dX0_whiten_29 rfl ?_
        refine r_if_lt (pc := 31) 41 dX0_whiten_31 (by decide) (fun c31 => ?_) (fun c31 => ?_)
        · skip
          have k1 := i32_lt0.mp c31
          have kb : goodW l k = false := decide_eq_false (by omega)
          refine r_iload_n (pc := 41) dX0_whiten_41 rfl ?_
          refine r_ireturn (pc := 42) (ty := .int) dX0_whiten_42 rfl rfl ⟨Nat.zero_le _, Nat.zero_le _⟩ (fun gE hg => ?_)
          rw [stopAt_eq hj kb hk] at hP ⊢
          exact ⟨rfl, hP _ hg.1 hg.2⟩
        · skip
          have k1 := ge0 c31
          refine r_iload (pc := 34) dX0_whiten_34 rfl ?_
          refine r_bipush (pc := 36) (v := 99) dX0_whiten_36 (by decide) ?_
          refine r_icmp_le (pc := 38) 43 dX0_whiten_38 (by decide) (fun c38 => ?_) (fun c38 => ?_)
          · skip
            have k2 : (l.getD k 0).toInt ≤ 99 := fa_le.mp c38
            have kg : goodW l k = true := decide_eq_true (by omega)
            refine r_aload_n (pc := 43) dX0_whiten_43 rfl ?_
            refine r_getf (pc := 44) (k := 1) dX0_whiten_44 hX0 eX0 (by decide) fX0_18 (fun _ q => q.1.o) rfl ?_
            refine r_iload_n (pc := 47) dX0_whiten_47 rfl ?_
            refine r_iload (pc := 48) dX0_whiten_48 rfl ?_
            refine r_Vv (pc := 50) (μ' := mX5_write) dX0_whiten_50 nX0_86 iX5_write vX5_write kX5_write rfl rfl (rr (by decide) rfl) rfl ⟨Nat.zero_le _, Nat.zero_le _⟩ (fun g' q => ct_Row_write (P' := fun g' => CeilI c ro st mi he le wh si ca wn (mvL wt l 0 0 0 (k + 1)) g' ∧ Off c 5 g g') q.1.2.2.2 (fun g2 a b => by
                  rw [wrL_nI (by omega)] at a
                  have e := mvL_up (l := wt) (src := l) (j := 0) (i := 0) (k := k) (by omega)
                  rw [Nat.zero_add] at e
                  rw [e] at a
                  exact ⟨q.1.setT a b, q.2.tr (b.wide (by omega) (by omega))⟩)) ?_
            refine r_iinc1 (pc := 53) dX0_whiten_53 rfl (Nat.le_of_ble_eq_true rfl) rfl ?_
            dsimp only [lset]
            refine r_goto (pc := 56) 17 dX0_whiten_56 (by decide) ?_
            rw [nI_s]
            exact aw_dr 4 rfl (ih (fun j hj2 => by
              by_cases e : j = k
              · rw [e]; exact kg
              · exact hj j (by omega)))
          · skip
            have k2 : ¬ (l.getD k 0).toInt ≤ 99 := fun q => c38 (fa_le.mpr q)
            have kb : goodW l k = false := decide_eq_false (by omega)
            refine r_iload_n (pc := 41) dX0_whiten_41 rfl ?_
            refine r_ireturn (pc := 42) (ty := .int) dX0_whiten_42 rfl rfl ⟨Nat.zero_le _, Nat.zero_le _⟩ (fun gE hg => ?_)
            rw [stopAt_eq hj kb hk] at hP ⊢
            exact ⟨rfl, hP _ hg.1 hg.2⟩
  refine r_aload_n (pc := 0) dX0_whiten_0 rfl ?_
  refine r_Vi (pc := 1) (μ' := mX5_length) dX0_whiten_1 nX0_50 iX5_length vX5_length kX5_length rfl rfl (rr (by decide) rfl) rfl ⟨Nat.zero_le _, Nat.zero_le _⟩ (fun g' q => ct_Row_length (hL.off q.2 (by omega)) q) ?_
  refine r_aload_n (pc := 4) dX0_whiten_4 rfl ?_
  refine r_getf (pc := 5) (k := 1) dX0_whiten_5 hX0 eX0 (by decide) fX0_18 (fun _ q => q.1.o) rfl ?_
  refine r_Vi (pc := 8) (μ' := mX5_length) dX0_whiten_8 nX0_50 iX5_length vX5_length kX5_length rfl rfl (rr (by decide) rfl) rfl ⟨Nat.zero_le _, Nat.zero_le _⟩ (fun g' q => ct_Row_length q.1.2.2.2 q) ?_
  refine r_mmin (pc := 11) dX0_whiten_11 nX0_65 ma_s_min z_math ma_c_min ⟨(Nat.le_of_ble_eq_true rfl), (Nat.le_of_ble_eq_true rfl)⟩ (Nat.le_of_ble_eq_true rfl) ⟨Nat.zero_le _, Nat.zero_le _⟩ rfl ?_
  rw [min_eq (by omega) (by omega), ← hn]
  refine r_istore_n (pc := 14) dX0_whiten_14 rfl (Nat.le_of_ble_eq_true rfl) rfl ?_
  dsimp only [lset]
  refine r_iconst (pc := 15) (v := 0) dX0_whiten_15 (by decide) ?_
  refine r_istore_n (pc := 16) dX0_whiten_16 rfl (Nat.le_of_ble_eq_true rfl) rfl ?_
  dsimp only [lset]
  exact aw_P (fun g' q => ⟨by rw [mvL_0]; exact q.1, q.2⟩) (L 0 (Nat.zero_le _) (fun j hj => absurd hj (Nat.not_lt_zero j)))
def eqW (l wn : List Int32) (j : Nat) : Bool := decide (l.getD j 0 = wn.getD j 0)
def fowI (l wn : List Int32) : Int32 := if stopAt (eqW l wn) (min l.length wn.length) < min l.length wn.length then nI (stopAt (eqW l wn) (min l.length wn.length)) else if l.length = wn.length then -1 else nI (min l.length wn.length)
set_option maxHeartbeats 4000000 in
theorem ct_Ceil_firstOtherWhen {cap : Nat} (hR : CeilI c ro st mi he le wh si ca wn wt g) (hL : RowAt r cap l g) (hP : P' g) : CV 2 0 0 mX0_firstOtherWhen c [.ref r] g (fun v g' => v = some (.int (fowI l wn)) ∧ P' g') := by
  have h1 := hL.2.1
  have h2 := hL.2.2.1
  have h3 := hR.2.2.1.2.1
  refine ⟨hR.V, ?_⟩
  refine ct_of (by decide) (fun _ _ => Nat.le_of_ble_eq_true rfl) ?_
  dsimp only [pad, ent]
  have hL2 : ∀ g', g' = g → RowAt r cap l g' := fun g' e => by rw [e]; exact hL
  refine aw_P (P' := fun g' => CeilI c ro st mi he le wh si ca wn wt g' ∧ g' = g) (fun g' e => by subst e; exact ⟨hR, rfl⟩) ?_
  obtain ⟨n, hn⟩ : ∃ n, n = min l.length wn.length := ⟨_, rfl⟩
  have hT := nI_T (n := n) (by omega)
  have L : ∀ k, k ≤ n → (∀ j, j < k → eqW l wn j = true) → AW (fun _ => True) (rmd 2 0 0) mX0_firstOtherWhen 0 0 17 [some (.ref c), some (.ref r), some (.int (nI n)), some (.int (nI k))] [] (fun g' => CeilI c ro st mi he le wh si ca wn wt g' ∧ g' = g) (fun v g' => v = some (.int (fowI l wn)) ∧ P' g') := by
    refine up_loop ?_ ?_
    · intro hj
      have e1 : fowI l wn = if l.length = wn.length then -1 else nI n := by unfold fowI; rw [← hn, stopAt_all hj, if_neg (by omega)]
      have hT1 := nI_T (n := l.length) (by omega)
      have hT2 := nI_T (n := wn.length) (by omega)
      refine r_iload_n (pc := 17) dX0_firstOtherWhen_17 rfl ?_
      refine r_iload_n (pc := 18) dX0_firstOtherWhen_18 rfl ?_
      refine r_icmp_ge (pc := 19) 46 dX0_firstOtherWhen_19 (by decide) (fun c19 => ?_) (fun c19 => ?_)
      · skip
        refine r_aload_n (pc := 46) dX0_firstOtherWhen_46 rfl ?_
        refine r_Vi (pc := 47) (μ' := mX5_length) dX0_firstOtherWhen_47 nX0_50 iX5_length vX5_length kX5_length rfl rfl (rr (by decide) rfl) rfl ⟨Nat.zero_le _, Nat.zero_le _⟩ (fun g' q => ct_Row_length (hL2 g' q.2) q) ?_
        refine r_aload_n (pc := 50) dX0_firstOtherWhen_50 rfl ?_
        refine r_getf (pc := 51) (k := 0) dX0_firstOtherWhen_51 hX0 eX0 (by decide) fX0_14 (fun _ q => q.1.o) rfl ?_
        refine r_Vi (pc := 54) (μ' := mX5_length) dX0_firstOtherWhen_54 nX0_50 iX5_length vX5_length kX5_length rfl rfl (rr (by decide) rfl) rfl ⟨Nat.zero_le _, Nat.zero_le _⟩ (fun g' q => ct_Row_length q.1.2.2.1 q) ?_
        refine r_icmp_ne (pc := 57) 64 dX0_firstOtherWhen_57 (by decide) (fun c57 => ?_) (fun c57 => ?_)
        · skip
          have k1 : ¬ l.length = wn.length := fun q => c57 (by rw [q])
          rw [e1, if_neg k1]
          refine r_iload_n (pc := 64) dX0_firstOtherWhen_64 rfl ?_
          refine r_ireturn (pc := 65) (ty := .int) dX0_firstOtherWhen_65 rfl rfl ⟨Nat.zero_le _, Nat.zero_le _⟩ (fun gE hg => ?_)
          exact ⟨rfl, by rw [hg.2]; exact hP⟩
        · skip
          have k1 : l.length = wn.length := by have := fa_eq.mp c57; omega
          rw [e1, if_pos k1]
          refine r_iconst (pc := 60) (v := (-1)) dX0_firstOtherWhen_60 (by decide) ?_
          refine r_goto (pc := 61) 65 dX0_firstOtherWhen_61 (by decide) ?_
          refine r_ireturn (pc := 65) (ty := .int) dX0_firstOtherWhen_65 rfl rfl ⟨Nat.zero_le _, Nat.zero_le _⟩ (fun gE hg => ?_)
          exact ⟨rfl, by rw [hg.2]; exact hP⟩
      · skip
        exact absurd (fa_le.mpr (Int.le_refl _)) c19
    · intro k hk ih hj
      have hTk := nI_T (n := k) (by omega)
      refine r_iload_n (pc := 17) dX0_firstOtherWhen_17 rfl ?_
      refine r_iload_n (pc := 18) dX0_firstOtherWhen_18 rfl ?_
      refine r_icmp_ge (pc := 19) 46 dX0_firstOtherWhen_19 (by decide) (fun c19 => ?_) (fun c19 => ?_)
      · skip
        exact absurd c19 (fun q => by have := fa_le.mp q; omega)
      · skip
        refine r_aload_n (pc := 22) dX0_firstOtherWhen_22 rfl ?_
        refine r_iload_n (pc := 23) dX0_firstOtherWhen_23 rfl ?_
        refine r_Vi (pc := 24) (μ' := mX5_at) dX0_firstOtherWhen_24 nX0_61 iX5_at vX5_at kX5_at rfl rfl (rr (by decide) rfl) rfl ⟨Nat.zero_le _, Nat.zero_le _⟩ (fun g' q => ct_Row_at (hL2 g' q.2) q) ?_
        refine r_aload_n (pc := 27) dX0_firstOtherWhen_27 rfl ?_
        refine r_getf (pc := 28) (k := 0) dX0_firstOtherWhen_28 hX0 eX0 (by decide) fX0_14 (fun _ q => q.1.o) rfl ?_
        refine r_iload_n (pc := 31) dX0_firstOtherWhen_31 rfl ?_
        refine r_Vi (pc := 32) (μ' := mX5_at) dX0_firstOtherWhen_32 nX0_61 iX5_at vX5_at kX5_at rfl rfl (rr (by decide) rfl) rfl ⟨Nat.zero_le _, Nat.zero_le _⟩ (fun g' q => ct_Row_at q.1.2.2.1 q) ?_
        rw [atL_nI (show k ≤ 4000 by omega), atL_nI (show k ≤ 4000 by omega)]
        refine r_icmp_eq (pc := 35) 40 dX0_firstOtherWhen_35 (by decide) (fun c35 => ?_) (fun c35 => ?_)
        · skip
          refine r_iinc1 (pc := 40) dX0_firstOtherWhen_40 rfl (Nat.le_of_ble_eq_true rfl) rfl ?_
          dsimp only [lset]
          refine r_goto (pc := 43) 17 dX0_firstOtherWhen_43 (by decide) ?_
          rw [nI_s]
          exact ih (fun j hj2 => by
            by_cases e : j = k
            · rw [e]; exact decide_eq_true c35
            · exact hj j (by omega))
        · skip
          refine r_iload_n (pc := 38) dX0_firstOtherWhen_38 rfl ?_
          refine r_ireturn (pc := 39) (ty := .int) dX0_firstOtherWhen_39 rfl rfl ⟨Nat.zero_le _, Nat.zero_le _⟩ (fun gE hg => ?_)
          have e1 : fowI l wn = nI k := by unfold fowI; rw [← hn, stopAt_eq hj (decide_eq_false c35) hk, if_pos hk]
          exact ⟨by rw [e1], by rw [hg.2]; exact hP⟩
  refine r_aload_n (pc := 0) dX0_firstOtherWhen_0 rfl ?_
  refine r_Vi (pc := 1) (μ' := mX5_length) dX0_firstOtherWhen_1 nX0_50 iX5_length vX5_length kX5_length rfl rfl (rr (by decide) rfl) rfl ⟨Nat.zero_le _, Nat.zero_le _⟩ (fun g' q => ct_Row_length (hL2 g' q.2) q) ?_
  refine r_aload_n (pc := 4) dX0_firstOtherWhen_4 rfl ?_
  refine r_getf (pc := 5) (k := 0) dX0_firstOtherWhen_5 hX0 eX0 (by decide) fX0_14 (fun _ q => q.1.o) rfl ?_
  refine r_Vi (pc := 8) (μ' := mX5_length) dX0_firstOtherWhen_8 nX0_50 iX5_length vX5_length kX5_length rfl rfl (rr (by decide) rfl) rfl ⟨Nat.zero_le _, Nat.zero_le _⟩ (fun g' q => ct_Row_length q.1.2.2.1 q) ?_
  refine r_mmin (pc := 11) dX0_firstOtherWhen_11 nX0_65 ma_s_min z_math ma_c_min ⟨(Nat.le_of_ble_eq_true rfl), (Nat.le_of_ble_eq_true rfl)⟩ (Nat.le_of_ble_eq_true rfl) ⟨Nat.zero_le _, Nat.zero_le _⟩ rfl ?_
  rw [min_eq (by omega) (by omega), ← hn]
  refine r_istore_n (pc := 14) dX0_firstOtherWhen_14 rfl (Nat.le_of_ble_eq_true rfl) rfl ?_
  dsimp only [lset]
  refine r_iconst (pc := 15) (v := 0) dX0_firstOtherWhen_15 (by decide) ?_
  refine r_istore_n (pc := 16) dX0_firstOtherWhen_16 rfl (Nat.le_of_ble_eq_true rfl) rfl ?_
  dsimp only [lset]
  exact L 0 (Nat.zero_le _) (fun j hj => absurd hj (Nat.not_lt_zero j))
set_option maxHeartbeats 4000000 in
theorem ct_Ceil_take {c2 : Nat} (hR : CeilI c ro st mi he le wh si ca wn wt g) (hR2 : CeilI c2 ro2 st2 mi2 he2 le2 wh2 si2 ca2 wn2 wt2 g) (hd : c + 5 ≤ c2 ∨ c2 + 5 ≤ c) (hP : ∀ g', CeilI c ro2 st2 mi2 he2 le2 wh2 si2 0 wn2 wt2 g' → Off c 5 g g' → P' g') : CV 3 0 0 mX0_take c [.ref c2] g (fun v g' => v = none ∧ P' g') := by
  have h1 := hR2.2.2.1.2.1
  have h2 := hR2.2.2.2.2.1
  refine ⟨hR.V, ?_⟩
  refine ct_of (by decide) (fun _ _ => Nat.le_of_ble_eq_true rfl) ?_
  dsimp only [pad, ent]
  refine aw_P (P' := fun g' => CeilI c ro st mi he le wh si ca wn wt g' ∧ Off c 5 g g') (fun g' e => by subst e; exact ⟨hR, Off.rf _ _ _⟩) ?_
  refine r_aload_n (pc := 0) dX0_take_0 rfl ?_
  refine r_getf (pc := 1) (k := 0) dX0_take_1 hX0 eX0 (by decide) fX0_14 (fun _ q => q.1.o) rfl ?_
  refine r_aload_n (pc := 4) dX0_take_4 rfl ?_
  refine r_getf (pc := 5) (k := 0) dX0_take_5 hX0 eX0 (by decide) fX0_14 (fun _ q => (hR2.off q.2 (by omega)).o) rfl ?_
  refine r_Vv (pc := 8) (μ' := mX5_take) dX0_take_8 nX0_89 iX5_take vX5_take kX5_take rfl rfl (rr (by decide) rfl) rfl ⟨Nat.zero_le _, Nat.zero_le _⟩ (fun g' q => ct_Row_take (P' := fun g' => CeilI c ro st mi he le wh si ca wn2 wt g' ∧ Off c 5 g g') q.1.2.2.1 (hR2.off q.2 (by omega)).2.2.1 (by omega) (fun g2 a b => by rw [take_all h1] at a; exact ⟨q.1.setN a b, q.2.tr (b.wide (by omega) (by omega))⟩)) ?_
  refine r_aload_n (pc := 11) dX0_take_11 rfl ?_
  refine r_getf (pc := 12) (k := 1) dX0_take_12 hX0 eX0 (by decide) fX0_18 (fun _ q => q.1.o) rfl ?_
  refine r_aload_n (pc := 15) dX0_take_15 rfl ?_
  refine r_getf (pc := 16) (k := 1) dX0_take_16 hX0 eX0 (by decide) fX0_18 (fun _ q => (hR2.off q.2 (by omega)).o) rfl ?_
  refine r_Vv (pc := 19) (μ' := mX5_take) dX0_take_19 nX0_89 iX5_take vX5_take kX5_take rfl rfl (rr (by decide) rfl) rfl ⟨Nat.zero_le _, Nat.zero_le _⟩ (fun g' q => ct_Row_take (P' := fun g' => CeilI c ro st mi he le wh si ca wn2 wt2 g' ∧ Off c 5 g g') q.1.2.2.2 (hR2.off q.2 (by omega)).2.2.2 (by omega) (fun g2 a b => by rw [take_all h2] at a; exact ⟨q.1.setT a b, q.2.tr (b.wide (by omega) (by omega))⟩)) ?_
  refine r_aload_n (pc := 22) dX0_take_22 rfl ?_
  refine r_aload_n (pc := 23) dX0_take_23 rfl ?_
  refine r_getf (pc := 24) (k := 2) dX0_take_24 hX0 eX0 (by decide) fX0_21 (fun _ q => (hR2.off q.2 (by omega)).o) rfl ?_
  refine r_putf (pc := 27) (k := 2) (P' := fun g' => CeilI c ro2 st mi he le wh si ca wn2 wt2 g' ∧ Off c 5 g g') tyX0 dX0_take_27 hX0 tyX0_ok nmX0 eX0 (by decide) fX0_21 rfl rfl (fun _ _ => rfl) (fun _ _ => rfl) (Nat.le_of_ble_eq_true rfl) (fun _ q => q.1.o) (fun _ q => ⟨q.1.put, q.2.set (by omega) (by omega)⟩) ?_
  refine r_aload_n (pc := 30) dX0_take_30 rfl ?_
  refine r_aload_n (pc := 31) dX0_take_31 rfl ?_
  refine r_getf (pc := 32) (k := 3) dX0_take_32 hX0 eX0 (by decide) fX0_25 (fun _ q => (hR2.off q.2 (by omega)).o) rfl ?_
  refine r_putf (pc := 35) (k := 3) (P' := fun g' => CeilI c ro2 st2 mi he le wh si ca wn2 wt2 g' ∧ Off c 5 g g') tyX0 dX0_take_35 hX0 tyX0_ok nmX0 eX0 (by decide) fX0_25 rfl rfl (fun _ _ => rfl) (fun _ _ => rfl) (Nat.le_of_ble_eq_true rfl) (fun _ q => q.1.o) (fun _ q => ⟨q.1.put, q.2.set (by omega) (by omega)⟩) ?_
  refine r_aload_n (pc := 38) dX0_take_38 rfl ?_
  refine r_aload_n (pc := 39) dX0_take_39 rfl ?_
  refine r_getf (pc := 40) (k := 4) dX0_take_40 hX0 eX0 (by decide) fX0_28 (fun _ q => (hR2.off q.2 (by omega)).o) rfl ?_
  refine r_putf (pc := 43) (k := 4) (P' := fun g' => CeilI c ro2 st2 mi2 he le wh si ca wn2 wt2 g' ∧ Off c 5 g g') tyX0 dX0_take_43 hX0 tyX0_ok nmX0 eX0 (by decide) fX0_28 rfl rfl (fun _ _ => rfl) (fun _ _ => rfl) (Nat.le_of_ble_eq_true rfl) (fun _ q => q.1.o) (fun _ q => ⟨q.1.put, q.2.set (by omega) (by omega)⟩) ?_
  refine r_aload_n (pc := 46) dX0_take_46 rfl ?_
  refine r_aload_n (pc := 47) dX0_take_47 rfl ?_
  refine r_getf (pc := 48) (k := 5) dX0_take_48 hX0 eX0 (by decide) fX0_31 (fun _ q => (hR2.off q.2 (by omega)).o) rfl ?_
  refine r_putf (pc := 51) (k := 5) (P' := fun g' => CeilI c ro2 st2 mi2 he2 le wh si ca wn2 wt2 g' ∧ Off c 5 g g') tyX0 dX0_take_51 hX0 tyX0_ok nmX0 eX0 (by decide) fX0_31 rfl rfl (fun _ _ => rfl) (fun _ _ => rfl) (Nat.le_of_ble_eq_true rfl) (fun _ q => q.1.o) (fun _ q => ⟨q.1.put, q.2.set (by omega) (by omega)⟩) ?_
  refine r_aload_n (pc := 54) dX0_take_54 rfl ?_
  refine r_aload_n (pc := 55) dX0_take_55 rfl ?_
  refine r_getf (pc := 56) (k := 6) dX0_take_56 hX0 eX0 (by decide) fX0_34 (fun _ q => (hR2.off q.2 (by omega)).o) rfl ?_
  refine r_putf (pc := 59) (k := 6) (P' := fun g' => CeilI c ro2 st2 mi2 he2 le2 wh si ca wn2 wt2 g' ∧ Off c 5 g g') tyX0 dX0_take_59 hX0 tyX0_ok nmX0 eX0 (by decide) fX0_34 rfl rfl (fun _ _ => rfl) (fun _ _ => rfl) (Nat.le_of_ble_eq_true rfl) (fun _ q => q.1.o) (fun _ q => ⟨q.1.put, q.2.set (by omega) (by omega)⟩) ?_
  refine r_aload_n (pc := 62) dX0_take_62 rfl ?_
  refine r_aload_n (pc := 63) dX0_take_63 rfl ?_
  refine r_getf (pc := 64) (k := 7) dX0_take_64 hX0 eX0 (by decide) fX0_37 (fun _ q => (hR2.off q.2 (by omega)).o) rfl ?_
  refine r_putf (pc := 67) (k := 7) (P' := fun g' => CeilI c ro2 st2 mi2 he2 le2 wh2 si ca wn2 wt2 g' ∧ Off c 5 g g') tyX0 dX0_take_67 hX0 tyX0_ok nmX0 eX0 (by decide) fX0_37 rfl rfl (fun _ _ => rfl) (fun _ _ => rfl) (Nat.le_of_ble_eq_true rfl) (fun _ q => q.1.o) (fun _ q => ⟨q.1.put, q.2.set (by omega) (by omega)⟩) ?_
  refine r_aload_n (pc := 70) dX0_take_70 rfl ?_
  refine r_aload_n (pc := 71) dX0_take_71 rfl ?_
  refine r_getf (pc := 72) (k := 8) dX0_take_72 hX0 eX0 (by decide) fX0_40 (fun _ q => (hR2.off q.2 (by omega)).o) rfl ?_
  refine r_putf (pc := 75) (k := 8) (P' := fun g' => CeilI c ro2 st2 mi2 he2 le2 wh2 si2 ca wn2 wt2 g' ∧ Off c 5 g g') tyX0 dX0_take_75 hX0 tyX0_ok nmX0 eX0 (by decide) fX0_40 rfl rfl (fun _ _ => rfl) (fun _ _ => rfl) (Nat.le_of_ble_eq_true rfl) (fun _ q => q.1.o) (fun _ q => ⟨q.1.put, q.2.set (by omega) (by omega)⟩) ?_
  refine r_aload_n (pc := 78) dX0_take_78 rfl ?_
  refine r_iconst (pc := 79) (v := 0) dX0_take_79 (by decide) ?_
  refine r_putf (pc := 80) (k := 9) (P' := fun g' => CeilI c ro2 st2 mi2 he2 le2 wh2 si2 0 wn2 wt2 g' ∧ Off c 5 g g') tyX0 dX0_take_80 hX0 tyX0_ok nmX0 eX0 (by decide) fX0_43 rfl rfl (fun _ _ => rfl) (fun _ _ => rfl) (Nat.le_of_ble_eq_true rfl) (fun _ q => q.1.o) (fun _ q => ⟨q.1.put, q.2.set (by omega) (by omega)⟩) ?_
  refine r_return (pc := 83) dX0_take_83 rfl ⟨Nat.zero_le _, Nat.zero_le _⟩ (fun gE hg => ?_)
  exact ⟨rfl, hP _ hg.1 hg.2⟩
end CeilM
