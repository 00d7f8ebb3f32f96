/-! WHAT WOULD BE (OneGoCeiling$Thought): pauses counted, places weighed -/
/-- seen in all, if s is the strip that one is called away ahead of -/
def caI (sw sx : List Int32) (s : Int32) : Nat → Int32
  | 0 => 0
  | k + 1 => caI sw sx s k + (if nI (k + 1) = s then atL sx (nI (k + 1)) else atL sw (nI (k + 1)))
def woI (sw sx : List Int32) (st : Nat) : Nat → Nat
  | 0 => 1
  | k + 1 => if caI sw sx (nI (woI sw sx st k)) (st - 1) < caI sw sx (nI (k + 2)) (st - 1) then k + 2 else woI sw sx st k
theorem woI_le {sw sx : List Int32} {st : Nat} : ∀ k, 1 ≤ woI sw sx st k ∧ woI sw sx st k ≤ k + 1
  | 0 => ⟨Nat.le_refl _, Nat.le_refl _⟩
  | k + 1 => by
    have := woI_le (sw := sw) (sx := sx) (st := st) k
    rw [woI]; split <;> omega
def lpN (f : Nat → Nat) : Nat → Nat
  | 0 => 0
  | n + 1 => if f (n + 1) ≤ f 0 then n + 1 else lpN f n
def wyI (sw sx : List Int32) (w : Nat) : Nat → Int32
  | 0 => 0
  | k + 1 => wyI sw sx w k + (if w / 2 ^ k % 2 = 1 then atL sx (nI (k + 1)) else atL sw (nI (k + 1)))
def wcN (sw sx : List Int32) (st : Nat) (v : Int32) : Nat → Nat
  | 0 => 0
  | w + 1 => wcN sw sx st v w + (if wyI sw sx w (st - 1) ≤ v then 1 else 0)
theorem bit_is : ∀ w, w < 32 → ∀ k, k < 5 → ((nI w >>> (nI k &&& 31) &&& 1 = 1) ↔ w / 2 ^ k % 2 = 1) := by decide +kernel
theorem shl_is : ∀ k, k < 6 → (1 : Int32) <<< (nI k &&& 31) = nI (2 ^ k) := by decide +kernel
theorem p2_le {k : Nat} (h : k ≤ 5) : 2 ^ k ≤ 32 := Nat.le_trans (Nat.pow_le_pow_right (by decide) h) (by decide)
section Tho3
variable {θ ε td : Nat} {be : Int32} {K : CK} {sp pl bs sb sw sx lD lL : List Int32} {g h : AH} {P' : AH → Prop}
set_option maxHeartbeats 8000000 in
theorem ct_Th_seenCalledAhead {s : Int32} (hT : ThK θ ε be K sp pl bs sb sw sx g) (ok : KOk K) (hP : P' g) : CV 2 0 0 mX9_seenCalledAhead θ [.int s] g (fun v g' => v = some (.int (caI sw sx s (kSt K - 1))) ∧ P' g') := by
  refine ⟨hT.V, ?_⟩
  refine ct_of (by decide) (fun _ _ => Nat.le_of_ble_eq_true rfl) ?_
  dsimp only [pad, ent]
  have hst : 1 ≤ kSt K ∧ kSt K ≤ 6 := ok.2.1
  have hTst := nI_T (n := kSt K) (by omega)
  have L : ∀ k, k ≤ kSt K - 1 → AW (fun _ => True) (rmd 2 0 0) mX9_seenCalledAhead 0 0 4 [some (.ref θ), some (.int s), some (.int (caI sw sx s k)), some (.int (nI (k + 1)))] [] (fun g' => ThK θ ε be K sp pl bs sb sw sx g' ∧ g' = g) (fun v g' => v = some (.int (caI sw sx s (kSt K - 1))) ∧ P' g') := by
    refine up_loop ?_ ?_
    · rw [show kSt K - 1 + 1 = kSt K by omega]
      refine r_iload_n (pc := 4) dX9_seenCalledAhead_4 rfl ?_
      refine r_aload_n (pc := 5) dX9_seenCalledAhead_5 rfl ?_
      refine r_getf (pc := 6) (k := 1) dX9_seenCalledAhead_6 hX9 eX9 (by decide) fX9_10 (fun _ q => q.1.o) rfl ?_
      refine r_Vi (pc := 9) (μ' := mX0_strips) dX9_seenCalledAhead_9 nX9_55 iX0_strips vX0_strips kX0_strips rfl rfl (rr (by decide) rfl) rfl ⟨Nat.zero_le _, Nat.zero_le _⟩ (fun g' q => ct_Ceil_strips (q.1.2.1 : CeilI _ _ _ _ _ _ _ _ _ _ _ _) q) ?_
      refine r_icmp_ge (pc := 12) 48 dX9_seenCalledAhead_12 (by decide) (fun c12 => ?_) (fun c12 => ?_)
      · skip
        refine r_iload_n (pc := 48) dX9_seenCalledAhead_48 rfl ?_
        refine r_ireturn (pc := 49) (ty := .int) dX9_seenCalledAhead_49 rfl rfl ⟨Nat.zero_le _, Nat.zero_le _⟩ (fun gE hg => ?_)
        exact ⟨rfl, by rw [hg.2]; exact hP⟩
      · skip
        exact absurd (fa_le.mpr (Int.le_refl _)) c12
    · intro k hk ih
      have hTk := nI_T (n := k + 1) (by omega)
      refine r_iload_n (pc := 4) dX9_seenCalledAhead_4 rfl ?_
      refine r_aload_n (pc := 5) dX9_seenCalledAhead_5 rfl ?_
      refine r_getf (pc := 6) (k := 1) dX9_seenCalledAhead_6 hX9 eX9 (by decide) fX9_10 (fun _ q => q.1.o) rfl ?_
      refine r_Vi (pc := 9) (μ' := mX0_strips) dX9_seenCalledAhead_9 nX9_55 iX0_strips vX0_strips kX0_strips rfl rfl (rr (by decide) rfl) rfl ⟨Nat.zero_le _, Nat.zero_le _⟩ (fun g' q => ct_Ceil_strips (q.1.2.1 : CeilI _ _ _ _ _ _ _ _ _ _ _ _) q) ?_
      refine r_icmp_ge (pc := 12) 48 dX9_seenCalledAhead_12 (by decide) (fun c12 => ?_) (fun c12 => ?_)
      · skip
        exact absurd c12 (fun q => by have := fa_le.mp q; rw [hTk] at this; have : (nI (kSt K)).toInt ≤ ((k + 1 : Nat) : Int) := this; omega)
      · skip
        refine r_iload_n (pc := 15) dX9_seenCalledAhead_15 rfl ?_
        refine r_iload_n (pc := 16) dX9_seenCalledAhead_16 rfl ?_
        refine r_iload_n (pc := 17) dX9_seenCalledAhead_17 rfl ?_
        refine r_icmp_ne (pc := 18) 32 dX9_seenCalledAhead_18 (by decide) (fun c18 => ?_) (fun c18 => ?_)
        · skip
          have e : caI sw sx s (k + 1) = caI sw sx s k + atL sw (nI (k + 1)) := by rw [caI, if_neg c18]
          refine r_aload_n (pc := 32) dX9_seenCalledAhead_32 rfl ?_
          refine r_getf (pc := 33) (k := 6) dX9_seenCalledAhead_33 hX9 eX9 (by decide) fX9_34 (fun _ q => q.1.o) rfl ?_
          refine r_iload_n (pc := 36) dX9_seenCalledAhead_36 rfl ?_
          refine r_Vi (pc := 37) (μ' := mX5_at) dX9_seenCalledAhead_37 nX9_96 iX5_at vX5_at kX5_at rfl rfl (rr (by decide) rfl) rfl ⟨Nat.zero_le _, Nat.zero_le _⟩ (fun g' q => ct_Row_at q.1.2.2.2.2.2.2.1 q) ?_
          refine r_iadd (pc := 40) dX9_seenCalledAhead_40 ?_
          rw [← e]
          refine r_istore_n (pc := 41) dX9_seenCalledAhead_41 rfl (Nat.le_of_ble_eq_true rfl) rfl ?_
          dsimp only [lset]
          refine r_iinc1 (pc := 42) dX9_seenCalledAhead_42 rfl (Nat.le_of_ble_eq_true rfl) rfl ?_
          dsimp only [lset]
          refine r_goto (pc := 45) 4 dX9_seenCalledAhead_45 (by decide) ?_
          rw [nI_s]
          exact ih
        · skip
          have e : caI sw sx s (k + 1) = caI sw sx s k + atL sx (nI (k + 1)) := by rw [caI, if_pos c18]
          refine r_aload_n (pc := 21) dX9_seenCalledAhead_21 rfl ?_
          refine r_getf (pc := 22) (k := 7) dX9_seenCalledAhead_22 hX9 eX9 (by decide) fX9_37 (fun _ q => q.1.o) rfl ?_
          refine r_iload_n (pc := 25) dX9_seenCalledAhead_25 rfl ?_
          refine r_Vi (pc := 26) (μ' := mX5_at) dX9_seenCalledAhead_26 nX9_96 iX5_at vX5_at kX5_at rfl rfl (rr (by decide) rfl) rfl ⟨Nat.zero_le _, Nat.zero_le _⟩ (fun g' q => ct_Row_at q.1.2.2.2.2.2.2.2 q) ?_
          refine r_goto (pc := 29) 40 dX9_seenCalledAhead_29 (by decide) ?_
          refine r_iadd (pc := 40) dX9_seenCalledAhead_40 ?_
          rw [← e]
          refine r_istore_n (pc := 41) dX9_seenCalledAhead_41 rfl (Nat.le_of_ble_eq_true rfl) rfl ?_
          dsimp only [lset]
          refine r_iinc1 (pc := 42) dX9_seenCalledAhead_42 rfl (Nat.le_of_ble_eq_true rfl) rfl ?_
          dsimp only [lset]
          refine r_goto (pc := 45) 4 dX9_seenCalledAhead_45 (by decide) ?_
          rw [nI_s]
          exact ih
  refine aw_P (P' := fun g' => ThK θ ε be K sp pl bs sb sw sx g' ∧ g' = g) (fun g' e => by subst e; exact ⟨hT, rfl⟩) ?_
  refine r_iconst (pc := 0) (v := 0) dX9_seenCalledAhead_0 (by decide) ?_
  refine r_istore_n (pc := 1) dX9_seenCalledAhead_1 rfl (Nat.le_of_ble_eq_true rfl) rfl ?_
  dsimp only [lset]
  refine r_iconst (pc := 2) (v := 1) dX9_seenCalledAhead_2 (by decide) ?_
  refine r_istore_n (pc := 3) dX9_seenCalledAhead_3 rfl (Nat.le_of_ble_eq_true rfl) rfl ?_
  dsimp only [lset]
  exact L 0 (Nat.zero_le _)
set_option maxHeartbeats 8000000 in
theorem ct_Th_worstStrip (hT : ThK θ ε be K sp pl bs sb sw sx g) (ok : KOk K) (hP : P' g) : CV 3 0 0 mX9_worstStrip θ [] g (fun v g' => v = some (.int (nI (woI sw sx (kSt K) (kSt K - 2)))) ∧ P' g') := by
  refine ⟨hT.V, ?_⟩
  refine ct_of (by decide) (fun _ _ => Nat.le_of_ble_eq_true rfl) ?_
  dsimp only [pad, ent]
  have hst : 1 ≤ kSt K ∧ kSt K ≤ 6 := ok.2.1
  have hTst := nI_T (n := kSt K) (by omega)
  have L : ∀ k, k ≤ kSt K - 2 → AW (fun _ => True) (rmd 3 0 0) mX9_worstStrip 0 0 4 [some (.ref θ), some (.int (nI (woI sw sx (kSt K) k))), some (.int (nI (k + 2)))] [] (fun g' => ThK θ ε be K sp pl bs sb sw sx g' ∧ g' = g) (fun v g' => v = some (.int (nI (woI sw sx (kSt K) (kSt K - 2)))) ∧ P' g') := by
    refine up_loop ?_ ?_
    · have hT2 := nI_T (n := kSt K - 2 + 2) (by omega)
      refine r_iload_n (pc := 4) dX9_worstStrip_4 rfl ?_
      refine r_aload_n (pc := 5) dX9_worstStrip_5 rfl ?_
      refine r_getf (pc := 6) (k := 1) dX9_worstStrip_6 hX9 eX9 (by decide) fX9_10 (fun _ q => q.1.o) rfl ?_
      refine r_Vi (pc := 9) (μ' := mX0_strips) dX9_worstStrip_9 nX9_55 iX0_strips vX0_strips kX0_strips rfl rfl (rr (by decide) rfl) rfl ⟨Nat.zero_le _, Nat.zero_le _⟩ (fun g' q => ct_Ceil_strips (q.1.2.1 : CeilI _ _ _ _ _ _ _ _ _ _ _ _) q) ?_
      refine r_icmp_ge (pc := 12) 36 dX9_worstStrip_12 (by decide) (fun c12 => ?_) (fun c12 => ?_)
      · skip
        refine r_iload_n (pc := 36) dX9_worstStrip_36 rfl ?_
        refine r_ireturn (pc := 37) (ty := .int) dX9_worstStrip_37 rfl rfl ⟨Nat.zero_le _, Nat.zero_le _⟩ (fun gE hg => ?_)
        exact ⟨rfl, by rw [hg.2]; exact hP⟩
      · skip
        exact absurd (fa_le.mpr (by rw [hT2]; show (nI (kSt K)).toInt ≤ _; omega)) c12
    · intro k hk ih
      have hTk := nI_T (n := k + 2) (by omega)
      refine r_iload_n (pc := 4) dX9_worstStrip_4 rfl ?_
      refine r_aload_n (pc := 5) dX9_worstStrip_5 rfl ?_
      refine r_getf (pc := 6) (k := 1) dX9_worstStrip_6 hX9 eX9 (by decide) fX9_10 (fun _ q => q.1.o) rfl ?_
      refine r_Vi (pc := 9) (μ' := mX0_strips) dX9_worstStrip_9 nX9_55 iX0_strips vX0_strips kX0_strips rfl rfl (rr (by decide) rfl) rfl ⟨Nat.zero_le _, Nat.zero_le _⟩ (fun g' q => ct_Ceil_strips (q.1.2.1 : CeilI _ _ _ _ _ _ _ _ _ _ _ _) q) ?_
      refine r_icmp_ge (pc := 12) 36 dX9_worstStrip_12 (by decide) (fun c12 => ?_) (fun c12 => ?_)
      · skip
        exact absurd c12 (fun q => by have := fa_le.mp q; rw [hTk] at this; have : (nI (kSt K)).toInt ≤ ((k + 2 : Nat) : Int) := this; omega)
      · skip
        refine r_aload_n (pc := 15) dX9_worstStrip_15 rfl ?_
        refine r_iload_n (pc := 16) dX9_worstStrip_16 rfl ?_
        refine r_Vi (pc := 17) (μ' := mX9_seenCalledAhead) dX9_worstStrip_17 nX9_125 iX9_seenCalledAhead vX9_seenCalledAhead kX9_seenCalledAhead rfl rfl (rr (by decide) rfl) rfl ⟨Nat.zero_le _, Nat.zero_le _⟩ (fun g' q => ct_Th_seenCalledAhead q.1 ok q) ?_
        refine r_aload_n (pc := 20) dX9_worstStrip_20 rfl ?_
        refine r_iload_n (pc := 21) dX9_worstStrip_21 rfl ?_
        refine r_Vi (pc := 22) (μ' := mX9_seenCalledAhead) dX9_worstStrip_22 nX9_125 iX9_seenCalledAhead vX9_seenCalledAhead kX9_seenCalledAhead rfl rfl (rr (by decide) rfl) rfl ⟨Nat.zero_le _, Nat.zero_le _⟩ (fun g' q => ct_Th_seenCalledAhead q.1 ok q) ?_
        refine r_icmp_le (pc := 25) 30 dX9_worstStrip_25 (by decide) (fun c25 => ?_) (fun c25 => ?_)
        · skip
          have e : woI sw sx (kSt K) (k + 1) = woI sw sx (kSt K) k := by rw [woI, if_neg (fun q => by have h1 := fa_lt.mp q; have h2 := fa_le.mp c25; omega)]
          refine r_iinc1 (pc := 30) dX9_worstStrip_30 rfl (Nat.le_of_ble_eq_true rfl) rfl ?_
          dsimp only [lset]
          refine r_goto (pc := 33) 4 dX9_worstStrip_33 (by decide) ?_
          rw [nI_s]
          rw [e] at ih
          exact ih
        · skip
          have e : woI sw sx (kSt K) (k + 1) = k + 2 := by rw [woI, if_pos (fa_lt.mpr (by have h2 : ¬ _ := fun q => c25 (fa_le.mpr q); omega))]
          refine r_iload_n (pc := 28) dX9_worstStrip_28 rfl ?_
          refine r_istore_n (pc := 29) dX9_worstStrip_29 rfl (Nat.le_of_ble_eq_true rfl) rfl ?_
          dsimp only [lset]
          refine r_iinc1 (pc := 30) dX9_worstStrip_30 rfl (Nat.le_of_ble_eq_true rfl) rfl ?_
          dsimp only [lset]
          refine r_goto (pc := 33) 4 dX9_worstStrip_33 (by decide) ?_
          rw [nI_s]
          rw [e] at ih
          exact ih
  refine aw_P (P' := fun g' => ThK θ ε be K sp pl bs sb sw sx g' ∧ g' = g) (fun g' e => by subst e; exact ⟨hT, rfl⟩) ?_
  refine r_iconst (pc := 0) (v := 1) dX9_worstStrip_0 (by decide) ?_
  refine r_istore_n (pc := 1) dX9_worstStrip_1 rfl (Nat.le_of_ble_eq_true rfl) rfl ?_
  dsimp only [lset]
  refine r_iconst (pc := 2) (v := 2) dX9_worstStrip_2 (by decide) ?_
  refine r_istore_n (pc := 3) dX9_worstStrip_3 rfl (Nat.le_of_ble_eq_true rfl) rfl ?_
  dsimp only [lset]
  exact L 0 (Nat.zero_le _)
set_option maxHeartbeats 8000000 in
theorem ct_Th_longestPause {s most : Nat} (hT : TE θ ε td lD lL be K sp pl bs sb sw sx g) (ok : KOk K) (wb : WB K) (hs : 1 ≤ s ∧ s < 6) (hm : most ≤ 4000) (hP : ∀ g', TE θ ε td lD lL be K sp pl bs sb sw sx g' → OffS (eyS ε td) g g' → P' g') : CV 8 0 0 mX9_longestPause θ [.int (nI s), .int (nI most)] g (fun v g' => v = some (.int (nI (lpN (SB K lD lL (s - 1) (s - 1) s) most))) ∧ P' g') := by
  refine ⟨hT.1.V, ?_⟩
  refine ct_of (by decide) (fun _ _ => Nat.le_of_ble_eq_true rfl) ?_
  dsimp only [pad, ent]
  have hpr : nI s - 1 = nI (s - 1) := by
    obtain ⟨t, rfl⟩ : ∃ t, s = t + 1 := ⟨s - 1, by omega⟩
    exact nI_pred t
  have h0 := SB_le ok lD lL (s - 1) (s - 1) s 0
  have hT0 := nI_T (n := SB K lD lL (s - 1) (s - 1) s 0) (by omega)
  have L : ∀ k, k ≤ 4000 → (∀ x, x = lpN (SB K lD lL (s - 1) (s - 1) s) k → AW (fun _ => True) (rmd 8 0 0) mX9_longestPause 0 0 23 [some (.ref θ), some (.int (nI s)), some (.int (nI most)), some (.int (nI (SB K lD lL (s - 1) (s - 1) s 0))), some (.int (nI k))] [] (fun g' => TE θ ε td lD lL be K sp pl bs sb sw sx g' ∧ OffS (eyS ε td) g g') (fun v g' => v = some (.int (nI x)) ∧ P' g')) := by
    intro k
    induction k with
    | zero =>
      intro _ x hx
      subst hx
      refine r_iload (pc := 23) dX9_longestPause_23 rfl ?_
      refine r_if_le (pc := 25) 61 dX9_longestPause_25 (by decide) (fun c25 => ?_) (fun c25 => ?_)
      · skip
        refine r_iconst (pc := 61) (v := 0) dX9_longestPause_61 (by decide) ?_
        refine r_ireturn (pc := 62) (ty := .int) dX9_longestPause_62 rfl rfl ⟨Nat.zero_le _, Nat.zero_le _⟩ (fun gE hg => ?_)
        exact ⟨rfl, hP _ hg.1 hg.2⟩
      · skip
        exact absurd (by decide) c25
    | succ k ih =>
      intro hk x hx
      have hTk := nI_T (n := k + 1) (by omega)
      have h1 := SB_le ok lD lL (s - 1) (s - 1) s (k + 1)
      have hT1 := nI_T (n := SB K lD lL (s - 1) (s - 1) s (k + 1)) (by omega)
      rw [lpN] at hx
      refine r_iload (pc := 23) dX9_longestPause_23 rfl ?_
      refine r_if_le (pc := 25) 61 dX9_longestPause_25 (by decide) (fun c25 => ?_) (fun c25 => ?_)
      · skip
        exact absurd c25 (fun q => by have := fa_le.mp q; rw [hTk, t0] at this; omega)
      · skip
        refine r_aload_n (pc := 28) dX9_longestPause_28 rfl ?_
        refine r_getf (pc := 29) (k := 0) dX9_longestPause_29 hX9 eX9 (by decide) fX9_44 (fun _ q => q.1.1.o) rfl ?_
        refine r_aload_n (pc := 32) dX9_longestPause_32 rfl ?_
        refine r_getf (pc := 33) (k := 1) dX9_longestPause_33 hX9 eX9 (by decide) fX9_10 (fun _ q => q.1.1.o) rfl ?_
        refine r_iload_n (pc := 36) dX9_longestPause_36 rfl ?_
        refine r_iconst (pc := 37) (v := 1) dX9_longestPause_37 (by decide) ?_
        refine r_isub (pc := 38) dX9_longestPause_38 ?_
        refine r_iload_n (pc := 39) dX9_longestPause_39 rfl ?_
        refine r_iconst (pc := 40) (v := 1) dX9_longestPause_40 (by decide) ?_
        refine r_isub (pc := 41) dX9_longestPause_41 ?_
        refine r_iload_n (pc := 42) dX9_longestPause_42 rfl ?_
        refine r_iload (pc := 43) dX9_longestPause_43 rfl ?_
        rw [hpr]
        refine r_Vi (pc := 45) (μ' := mX2_seenBetween) dX9_longestPause_45 nX9_106 iX2_seenBetween vX2_seenBetween kX2_seenBetween rfl rfl (rr (by decide) rfl) rfl ⟨Nat.zero_le _, Nat.zero_le _⟩ (fun g' q => ct_Eye_seenBetween (P' := fun g2 => TE θ ε td lD lL be K sp pl bs sb sw sx g2 ∧ OffS (eyS ε td) g g2) q.1.ec ok wb (by omega) (by omega) (by omega) (by omega) (fun g2 a b => ⟨q.1.on a b, q.2.tr b⟩)) ?_
        refine r_iload_n (pc := 48) dX9_longestPause_48 rfl ?_
        refine r_icmp_gt (pc := 49) 55 dX9_longestPause_49 (by decide) (fun c49 => ?_) (fun c49 => ?_)
        · skip
          rw [if_neg (by have h3 := fa_lt.mp c49; have h4 : (nI (SB K lD lL (s - 1) (s - 1) s 0)).toInt < (nI (SB K lD lL (s - 1) (s - 1) s (k + 1))).toInt := h3; omega)] at hx
          refine r_iincm (pc := 55) dX9_longestPause_55 rfl (Nat.le_of_ble_eq_true rfl) rfl ?_
          dsimp only [lset]
          refine r_goto (pc := 58) 23 dX9_longestPause_58 (by decide) ?_
          rw [nI_pred]
          exact ih (by omega) x hx
        · skip
          refine r_iload (pc := 52) dX9_longestPause_52 rfl ?_
          refine r_ireturn (pc := 54) (ty := .int) dX9_longestPause_54 rfl rfl ⟨Nat.zero_le _, Nat.zero_le _⟩ (fun gE hg => ?_)
          exact ⟨by rw [hx, if_pos (by have h3 : ¬ _ := fun q => c49 (fa_lt.mpr q); have h4 : (nI (SB K lD lL (s - 1) (s - 1) s (k + 1))).toInt ≤ (nI (SB K lD lL (s - 1) (s - 1) s 0)).toInt := Int.not_lt.mp h3; omega)], hP _ hg.1 hg.2⟩
  refine aw_P (P' := fun g' => TE θ ε td lD lL be K sp pl bs sb sw sx g' ∧ OffS (eyS ε td) g g') (fun g' e => by subst e; exact ⟨hT, OffS.rf _ _⟩) ?_
  refine r_aload_n (pc := 0) dX9_longestPause_0 rfl ?_
  refine r_getf (pc := 1) (k := 0) dX9_longestPause_1 hX9 eX9 (by decide) fX9_44 (fun _ q => q.1.1.o) rfl ?_
  refine r_aload_n (pc := 4) dX9_longestPause_4 rfl ?_
  refine r_getf (pc := 5) (k := 1) dX9_longestPause_5 hX9 eX9 (by decide) fX9_10 (fun _ q => q.1.1.o) rfl ?_
  refine r_iload_n (pc := 8) dX9_longestPause_8 rfl ?_
  refine r_iconst (pc := 9) (v := 1) dX9_longestPause_9 (by decide) ?_
  refine r_isub (pc := 10) dX9_longestPause_10 ?_
  refine r_iload_n (pc := 11) dX9_longestPause_11 rfl ?_
  refine r_iconst (pc := 12) (v := 1) dX9_longestPause_12 (by decide) ?_
  refine r_isub (pc := 13) dX9_longestPause_13 ?_
  refine r_iload_n (pc := 14) dX9_longestPause_14 rfl ?_
  refine r_iconst (pc := 15) (v := 0) dX9_longestPause_15 (by decide) ?_
  rw [hpr, ← nI_0]
  refine r_Vi (pc := 16) (μ' := mX2_seenBetween) dX9_longestPause_16 nX9_106 iX2_seenBetween vX2_seenBetween kX2_seenBetween rfl rfl (rr (by decide) rfl) rfl ⟨Nat.zero_le _, Nat.zero_le _⟩ (fun g' q => ct_Eye_seenBetween (P' := fun g2 => TE θ ε td lD lL be K sp pl bs sb sw sx g2 ∧ OffS (eyS ε td) g g2) q.1.ec ok wb (by omega) (by omega) (by omega) (by omega) (fun g2 a b => ⟨q.1.on a b, q.2.tr b⟩)) ?_
  refine r_istore_n (pc := 19) dX9_longestPause_19 rfl (Nat.le_of_ble_eq_true rfl) rfl ?_
  dsimp only [lset]
  refine r_iload_n (pc := 20) dX9_longestPause_20 rfl ?_
  refine r_istore (pc := 21) dX9_longestPause_21 (Nat.le_of_ble_eq_true rfl) rfl ?_
  dsimp only [lset]
  exact L most hm _ rfl
set_option maxHeartbeats 8000000 in
theorem ct_Th_waysOfPauses (hT : ThK θ ε be K sp pl bs sb sw sx g) (ok : KOk K) (hP : P' g) : CV 2 0 0 mX9_waysOfPauses θ [] g (fun v g' => v = some (.int (nI (2 ^ (kSt K - 1)))) ∧ P' g') := by
  refine ⟨hT.V, ?_⟩
  refine ct_of (by decide) (fun _ _ => Nat.le_of_ble_eq_true rfl) ?_
  dsimp only [pad, ent]
  have hst : 1 ≤ kSt K ∧ kSt K ≤ 6 := ok.2.1
  have hpr : nI K.2.1 - 1 = nI (kSt K - 1) := by
    obtain ⟨t, ht⟩ : ∃ t, kSt K = t + 1 := ⟨kSt K - 1, by omega⟩
    rw [show K.2.1 = t + 1 from ht, ht]; exact nI_pred t
  refine aw_P (P' := fun g' => ThK θ ε be K sp pl bs sb sw sx g' ∧ g' = g) (fun g' e => by subst e; exact ⟨hT, rfl⟩) ?_
  refine r_iconst (pc := 0) (v := 1) dX9_waysOfPauses_0 (by decide) ?_
  refine r_aload_n (pc := 1) dX9_waysOfPauses_1 rfl ?_
  refine r_getf (pc := 2) (k := 1) dX9_waysOfPauses_2 hX9 eX9 (by decide) fX9_10 (fun _ q => q.1.o) rfl ?_
  refine r_Vi (pc := 5) (μ' := mX0_strips) dX9_waysOfPauses_5 nX9_55 iX0_strips vX0_strips kX0_strips rfl rfl (rr (by decide) rfl) rfl ⟨Nat.zero_le _, Nat.zero_le _⟩ (fun g' q => ct_Ceil_strips (q.1.2.1 : CeilI _ _ _ _ _ _ _ _ _ _ _ _) q) ?_
  refine r_iconst (pc := 8) (v := 1) dX9_waysOfPauses_8 (by decide) ?_
  refine r_isub (pc := 9) dX9_waysOfPauses_9 ?_
  rw [hpr]
  refine r_ishl (pc := 10) dX9_waysOfPauses_10 ?_
  rw [shl_is _ (by omega)]
  refine r_ireturn (pc := 11) (ty := .int) dX9_waysOfPauses_11 rfl rfl ⟨Nat.zero_le _, Nat.zero_le _⟩ (fun gE hg => ?_)
  exact ⟨rfl, by rw [hg.2]; exact hP⟩
set_option maxHeartbeats 8000000 in
theorem ct_Th_waysSeenAtMost {v : Int32} (hT : ThK θ ε be K sp pl bs sb sw sx g) (ok : KOk K) (hP : P' g) : CV 3 0 0 mX9_waysSeenAtMost θ [.int v] g (fun r g' => r = some (.int (nI (wcN sw sx (kSt K) v (2 ^ (kSt K - 1))))) ∧ P' g') := by
  refine ⟨hT.V, ?_⟩
  refine ct_of (by decide) (fun _ _ => Nat.le_of_ble_eq_true rfl) ?_
  dsimp only [pad, ent]
  have hst : 1 ≤ kSt K ∧ kSt K ≤ 6 := ok.2.1
  have hp2 := p2_le (k := kSt K - 1) (by omega)
  have hTst := nI_T (n := kSt K) (by omega)
  have hTp := nI_T (n := 2 ^ (kSt K - 1)) (by omega)
  have L2 : ∀ w, w < 2 ^ (kSt K - 1) → AW (fun _ => True) (rmd 3 0 0) mX9_waysSeenAtMost 0 0 74 [some (.ref θ), some (.int v), some (.int (nI (wcN sw sx (kSt K) v w))), some (.int (nI w)), some (.int (wyI sw sx w (kSt K - 1))), none] [] (fun g' => ThK θ ε be K sp pl bs sb sw sx g' ∧ g' = g) (fun r g' => r = some (.int (nI (wcN sw sx (kSt K) v (2 ^ (kSt K - 1))))) ∧ P' g') → ∀ k, k ≤ kSt K - 1 → AW (fun _ => True) (rmd 3 0 0) mX9_waysSeenAtMost 0 0 18 [some (.ref θ), some (.int v), some (.int (nI (wcN sw sx (kSt K) v w))), some (.int (nI w)), some (.int (wyI sw sx w k)), some (.int (nI (k + 1)))] [] (fun g' => ThK θ ε be K sp pl bs sb sw sx g' ∧ g' = g) (fun r g' => r = some (.int (nI (wcN sw sx (kSt K) v (2 ^ (kSt K - 1))))) ∧ P' g') := by
    intro w hw kk
    refine up_loop ?_ ?_
    · rw [show kSt K - 1 + 1 = kSt K by omega]
      refine r_iload (pc := 18) dX9_waysSeenAtMost_18 rfl ?_
      refine r_aload_n (pc := 20) dX9_waysSeenAtMost_20 rfl ?_
      refine r_getf (pc := 21) (k := 1) dX9_waysSeenAtMost_21 hX9 eX9 (by decide) fX9_10 (fun _ q => q.1.o) rfl ?_
      refine r_Vi (pc := 24) (μ' := mX0_strips) dX9_waysSeenAtMost_24 nX9_55 iX0_strips vX0_strips kX0_strips rfl rfl (rr (by decide) rfl) rfl ⟨Nat.zero_le _, Nat.zero_le _⟩ (fun g' q => ct_Ceil_strips (q.1.2.1 : CeilI _ _ _ _ _ _ _ _ _ _ _ _) q) ?_
      refine r_icmp_ge (pc := 27) 74 dX9_waysSeenAtMost_27 (by decide) (fun c27 => ?_) (fun c27 => ?_)
      · skip
        exact aw_dr 5 rfl kk
      · skip
        exact absurd (fa_le.mpr (Int.le_refl _)) c27
    · intro k hk ih
      have hTk := nI_T (n := k + 1) (by omega)
      have hbit := bit_is w (by omega) k (by omega)
      refine r_iload (pc := 18) dX9_waysSeenAtMost_18 rfl ?_
      refine r_aload_n (pc := 20) dX9_waysSeenAtMost_20 rfl ?_
      refine r_getf (pc := 21) (k := 1) dX9_waysSeenAtMost_21 hX9 eX9 (by decide) fX9_10 (fun _ q => q.1.o) rfl ?_
      refine r_Vi (pc := 24) (μ' := mX0_strips) dX9_waysSeenAtMost_24 nX9_55 iX0_strips vX0_strips kX0_strips rfl rfl (rr (by decide) rfl) rfl ⟨Nat.zero_le _, Nat.zero_le _⟩ (fun g' q => ct_Ceil_strips (q.1.2.1 : CeilI _ _ _ _ _ _ _ _ _ _ _ _) q) ?_
      refine r_icmp_ge (pc := 27) 74 dX9_waysSeenAtMost_27 (by decide) (fun c27 => ?_) (fun c27 => ?_)
      · skip
        exact absurd c27 (fun q => by have := fa_le.mp q; rw [hTk] at this; have : (nI (kSt K)).toInt ≤ ((k + 1 : Nat) : Int) := this; omega)
      · skip
        refine r_iload (pc := 30) dX9_waysSeenAtMost_30 rfl ?_
        refine r_iload_n (pc := 32) dX9_waysSeenAtMost_32 rfl ?_
        refine r_iload (pc := 33) dX9_waysSeenAtMost_33 rfl ?_
        refine r_iconst (pc := 35) (v := 1) dX9_waysSeenAtMost_35 (by decide) ?_
        refine r_isub (pc := 36) dX9_waysSeenAtMost_36 ?_
        rw [show nI (k + 1) - 1 = nI k from nI_pred k]
        refine r_ishr (pc := 37) dX9_waysSeenAtMost_37 ?_
        refine r_iconst (pc := 38) (v := 1) dX9_waysSeenAtMost_38 (by decide) ?_
        refine r_iand (pc := 39) dX9_waysSeenAtMost_39 ?_
        refine r_iconst (pc := 40) (v := 1) dX9_waysSeenAtMost_40 (by decide) ?_
        refine r_icmp_ne (pc := 41) 56 dX9_waysSeenAtMost_41 (by decide) (fun c41 => ?_) (fun c41 => ?_)
        · skip
          have e : wyI sw sx w (k + 1) = wyI sw sx w k + atL sw (nI (k + 1)) := by rw [wyI, if_neg (fun x => c41 (hbit.mpr x))]
          refine r_aload_n (pc := 56) dX9_waysSeenAtMost_56 rfl ?_
          refine r_getf (pc := 57) (k := 6) dX9_waysSeenAtMost_57 hX9 eX9 (by decide) fX9_34 (fun _ q => q.1.o) rfl ?_
          refine r_iload (pc := 60) dX9_waysSeenAtMost_60 rfl ?_
          refine r_Vi (pc := 62) (μ' := mX5_at) dX9_waysSeenAtMost_62 nX9_96 iX5_at vX5_at kX5_at rfl rfl (rr (by decide) rfl) rfl ⟨Nat.zero_le _, Nat.zero_le _⟩ (fun g' q => ct_Row_at q.1.2.2.2.2.2.2.1 q) ?_
          refine r_iadd (pc := 65) dX9_waysSeenAtMost_65 ?_
          rw [← e]
          refine r_istore (pc := 66) dX9_waysSeenAtMost_66 (Nat.le_of_ble_eq_true rfl) rfl ?_
          dsimp only [lset]
          refine r_iinc1 (pc := 68) dX9_waysSeenAtMost_68 rfl (Nat.le_of_ble_eq_true rfl) rfl ?_
          dsimp only [lset]
          refine r_goto (pc := 71) 18 dX9_waysSeenAtMost_71 (by decide) ?_
          rw [nI_s]
          exact ih
        · skip
          have e : wyI sw sx w (k + 1) = wyI sw sx w k + atL sx (nI (k + 1)) := by rw [wyI, if_pos (hbit.mp c41)]
          refine r_aload_n (pc := 44) dX9_waysSeenAtMost_44 rfl ?_
          refine r_getf (pc := 45) (k := 7) dX9_waysSeenAtMost_45 hX9 eX9 (by decide) fX9_37 (fun _ q => q.1.o) rfl ?_
          refine r_iload (pc := 48) dX9_waysSeenAtMost_48 rfl ?_
          refine r_Vi (pc := 50) (μ' := mX5_at) dX9_waysSeenAtMost_50 nX9_96 iX5_at vX5_at kX5_at rfl rfl (rr (by decide) rfl) rfl ⟨Nat.zero_le _, Nat.zero_le _⟩ (fun g' q => ct_Row_at q.1.2.2.2.2.2.2.2 q) ?_
          refine r_goto (pc := 53) 65 dX9_waysSeenAtMost_53 (by decide) ?_
          refine r_iadd (pc := 65) dX9_waysSeenAtMost_65 ?_
          rw [← e]
          refine r_istore (pc := 66) dX9_waysSeenAtMost_66 (Nat.le_of_ble_eq_true rfl) rfl ?_
          dsimp only [lset]
          refine r_iinc1 (pc := 68) dX9_waysSeenAtMost_68 rfl (Nat.le_of_ble_eq_true rfl) rfl ?_
          dsimp only [lset]
          refine r_goto (pc := 71) 18 dX9_waysSeenAtMost_71 (by decide) ?_
          rw [nI_s]
          exact ih
  have L : ∀ w, w ≤ 2 ^ (kSt K - 1) → AW (fun _ => True) (rmd 3 0 0) mX9_waysSeenAtMost 0 0 4 [some (.ref θ), some (.int v), some (.int (nI (wcN sw sx (kSt K) v w))), some (.int (nI w)), none, none] [] (fun g' => ThK θ ε be K sp pl bs sb sw sx g' ∧ g' = g) (fun r g' => r = some (.int (nI (wcN sw sx (kSt K) v (2 ^ (kSt K - 1))))) ∧ P' g') := by
    refine up_loop ?_ ?_
    · skip
      refine r_iload_n (pc := 4) dX9_waysSeenAtMost_4 rfl ?_
      refine r_aload_n (pc := 5) dX9_waysSeenAtMost_5 rfl ?_
      refine r_Vi (pc := 6) (μ' := mX9_waysOfPauses) dX9_waysSeenAtMost_6 nX9_128 iX9_waysOfPauses vX9_waysOfPauses kX9_waysOfPauses rfl rfl (rr (by decide) rfl) rfl ⟨Nat.zero_le _, Nat.zero_le _⟩ (fun g' q => ct_Th_waysOfPauses q.1 ok q) ?_
      refine r_icmp_ge (pc := 9) 89 dX9_waysSeenAtMost_9 (by decide) (fun c9 => ?_) (fun c9 => ?_)
      · skip
        refine r_iload_n (pc := 89) dX9_waysSeenAtMost_89 rfl ?_
        refine r_ireturn (pc := 90) (ty := .int) dX9_waysSeenAtMost_90 rfl rfl ⟨Nat.zero_le _, Nat.zero_le _⟩ (fun gE hg => ?_)
        exact ⟨rfl, by rw [hg.2]; exact hP⟩
      · skip
        exact absurd (fa_le.mpr (Int.le_refl _)) c9
    · intro w hw ih
      have hTw := nI_T (n := w) (by omega)
      have B : AW (fun _ => True) (rmd 3 0 0) mX9_waysSeenAtMost 0 0 74 [some (.ref θ), some (.int v), some (.int (nI (wcN sw sx (kSt K) v w))), some (.int (nI w)), some (.int (wyI sw sx w (kSt K - 1))), none] [] (fun g' => ThK θ ε be K sp pl bs sb sw sx g' ∧ g' = g) (fun r g' => r = some (.int (nI (wcN sw sx (kSt K) v (2 ^ (kSt K - 1))))) ∧ P' g') := by
        refine r_iload (pc := 74) dX9_waysSeenAtMost_74 rfl ?_
        refine r_iload_n (pc := 76) dX9_waysSeenAtMost_76 rfl ?_
        refine r_icmp_gt (pc := 77) 83 dX9_waysSeenAtMost_77 (by decide) (fun c77 => ?_) (fun c77 => ?_)
        · skip
          have e : wcN sw sx (kSt K) v (w + 1) = wcN sw sx (kSt K) v w := by rw [wcN, if_neg (fun q => by have h1 := fa_le.mp q; have h2 := fa_lt.mp c77; omega), Nat.add_zero]
          first | rw [nI_s, ← e] | rw [← e]
          refine r_iinc1 (pc := 83) dX9_waysSeenAtMost_83 rfl (Nat.le_of_ble_eq_true rfl) rfl ?_
          dsimp only [lset]
          refine r_goto (pc := 86) 4 dX9_waysSeenAtMost_86 (by decide) ?_
          rw [nI_s]
          refine aw_dr 4 rfl ?_
          exact ih
        · skip
          have e : wcN sw sx (kSt K) v (w + 1) = wcN sw sx (kSt K) v w + 1 := by rw [wcN, if_pos (fa_le.mpr (by have h2 : ¬ _ := fun q => c77 (fa_lt.mpr q); omega))]
          refine r_iinc1 (pc := 80) dX9_waysSeenAtMost_80 rfl (Nat.le_of_ble_eq_true rfl) rfl ?_
          dsimp only [lset]
          first | rw [nI_s, ← e] | rw [← e]
          refine r_iinc1 (pc := 83) dX9_waysSeenAtMost_83 rfl (Nat.le_of_ble_eq_true rfl) rfl ?_
          dsimp only [lset]
          refine r_goto (pc := 86) 4 dX9_waysSeenAtMost_86 (by decide) ?_
          rw [nI_s]
          refine aw_dr 4 rfl ?_
          exact ih
      refine r_iload_n (pc := 4) dX9_waysSeenAtMost_4 rfl ?_
      refine r_aload_n (pc := 5) dX9_waysSeenAtMost_5 rfl ?_
      refine r_Vi (pc := 6) (μ' := mX9_waysOfPauses) dX9_waysSeenAtMost_6 nX9_128 iX9_waysOfPauses vX9_waysOfPauses kX9_waysOfPauses rfl rfl (rr (by decide) rfl) rfl ⟨Nat.zero_le _, Nat.zero_le _⟩ (fun g' q => ct_Th_waysOfPauses q.1 ok q) ?_
      refine r_icmp_ge (pc := 9) 89 dX9_waysSeenAtMost_9 (by decide) (fun c9 => ?_) (fun c9 => ?_)
      · skip
        exact absurd c9 (fun q => by have := fa_le.mp q; omega)
      · skip
        refine r_iconst (pc := 12) (v := 0) dX9_waysSeenAtMost_12 (by decide) ?_
        refine r_istore (pc := 13) dX9_waysSeenAtMost_13 (Nat.le_of_ble_eq_true rfl) rfl ?_
        dsimp only [lset]
        refine r_iconst (pc := 15) (v := 1) dX9_waysSeenAtMost_15 (by decide) ?_
        refine r_istore (pc := 16) dX9_waysSeenAtMost_16 (Nat.le_of_ble_eq_true rfl) rfl ?_
        dsimp only [lset]
        exact L2 w hw B 0 (Nat.zero_le _)
  refine aw_P (P' := fun g' => ThK θ ε be K sp pl bs sb sw sx g' ∧ g' = g) (fun g' e => by subst e; exact ⟨hT, rfl⟩) ?_
  refine r_iconst (pc := 0) (v := 0) dX9_waysSeenAtMost_0 (by decide) ?_
  refine r_istore_n (pc := 1) dX9_waysSeenAtMost_1 rfl (Nat.le_of_ble_eq_true rfl) rfl ?_
  dsimp only [lset]
  refine r_iconst (pc := 2) (v := 0) dX9_waysSeenAtMost_2 (by decide) ?_
  refine r_istore_n (pc := 3) dX9_waysSeenAtMost_3 rfl (Nat.le_of_ble_eq_true rfl) rfl ?_
  dsimp only [lset]
  exact L 0 (Nat.zero_le _)
theorem ct_Th_weightAt {s p q : Nat} (g : AH) : CT 1 0 0 mX9_weightAt [.int (nI s), .int (nI p), .int (nI q)] g (fun v g' => v = some (.int (nI ((s * 6 + p) * 6 + q))) ∧ g' = g) := by
  refine ct_of (by decide) (fun _ _ => Nat.le_of_ble_eq_true rfl) ?_
  dsimp only [pad, ent]
  refine r_iload_n (pc := 0) dX9_weightAt_0 rfl ?_
  refine r_bipush (pc := 1) (v := 6) dX9_weightAt_1 (by decide) ?_
  refine r_imul (pc := 3) dX9_weightAt_3 ?_
  rw [show (6 : Int32) = nI 6 from rfl, pk_mul]
  refine r_iload_n (pc := 4) dX9_weightAt_4 rfl ?_
  refine r_iadd (pc := 5) dX9_weightAt_5 ?_
  rw [nI_add]
  refine r_bipush (pc := 6) (v := 6) dX9_weightAt_6 (by decide) ?_
  refine r_imul (pc := 8) dX9_weightAt_8 ?_
  rw [show (6 : Int32) = nI 6 from rfl, pk_mul]
  refine r_iload_n (pc := 9) dX9_weightAt_9 rfl ?_
  refine r_iadd (pc := 10) dX9_weightAt_10 ?_
  rw [nI_add]
  refine r_ireturn (pc := 11) (ty := .int) dX9_weightAt_11 rfl rfl ⟨Nat.zero_le _, Nat.zero_le _⟩ (fun gE hg => ?_)
  exact ⟨rfl, hg⟩
def WPok (K : CK) (lD lL : List Int32) (m : Nat) (sb : List Int32) : Prop := sb.length = 216 ∧ ∀ s p q, s + 1 < kSt K → p < kSt K → q < kSt K → p ≠ q → (s * 6 + p) * 6 + q < m → sb.getD ((s * 6 + p) * 6 + q) 0 = nI (SB K lD lL s p q 0)
theorem WPok.to {m m2 : Nat} (w : WPok K lD lL m sb) (h : ∀ s p q, s + 1 < kSt K → p < kSt K → q < kSt K → p ≠ q → (s * 6 + p) * 6 + q < m2 → (s * 6 + p) * 6 + q < m) : WPok K lD lL m2 sb := ⟨w.1, fun s p q a b c d e => w.2 s p q a b c d (h s p q a b c d e)⟩
theorem WPok.put {s p q : Nat} (ok : KOk K) (w : WPok K lD lL ((s * 6 + p) * 6 + q) sb) (hs : s + 1 < kSt K) (hp : p < kSt K) (hq : q < kSt K) : WPok K lD lL ((s * 6 + p) * 6 + (q + 1)) (sb.set ((s * 6 + p) * 6 + q) (nI (SB K lD lL s p q 0))) := by
  have hst : 1 ≤ kSt K ∧ kSt K ≤ 6 := ok.2.1
  refine ⟨by rw [List.length_set]; exact w.1, fun a b c h1 h2 h3 h4 h5 => ?_⟩
  rw [getD_set (by rw [w.1]; omega)]
  by_cases e : (a * 6 + b) * 6 + c = (s * 6 + p) * 6 + q
  · obtain ⟨rfl, rfl, rfl⟩ : a = s ∧ b = p ∧ c = q := ⟨by omega, by omega, by omega⟩
    exact if_pos rfl
  · rw [if_neg e]; exact w.2 a b c h1 h2 h3 h4 (by omega)
theorem WPok.skip {s p q : Nat} (ok : KOk K) (w : WPok K lD lL ((s * 6 + p) * 6 + q) sb) (h : p = q) (hq : q < kSt K) : WPok K lD lL ((s * 6 + p) * 6 + (q + 1)) sb := by
  have hst : 1 ≤ kSt K ∧ kSt K ≤ 6 := ok.2.1
  refine w.to (fun a b c h1 h2 h3 h4 h5 => ?_)
  by_cases e : (a * 6 + b) * 6 + c = (s * 6 + p) * 6 + q
  · have e1 : a = s := by omega
    have e2 : b = p := by omega
    have e3 : c = q := by omega
    exact absurd (by omega) h4
  · omega
set_option maxHeartbeats 8000000 in
theorem ct_Th_weighPlaces (hT : TE θ ε td lD lL be K sp pl bs sb sw sx g) (ok : KOk K) (wb : WB K) (hP : ∀ g' sb', WPok K lD lL 216 sb' → TE θ ε td lD lL be K sp pl bs sb' sw sx g' → OffS (thS ε td θ) g g' → P' g') : CV 8 0 0 mX9_weighPlaces θ [] g (fun v g' => v = none ∧ P' g') := by
  refine ⟨hT.1.V, ?_⟩
  refine ct_of (by decide) (fun _ _ => Nat.le_of_ble_eq_true rfl) ?_
  dsimp only [pad, ent]
  have hst : 1 ≤ kSt K ∧ kSt K ≤ 6 := ok.2.1
  have hTst := nI_T (n := kSt K) (by omega)
  have L3 : ∀ s p, s + 1 < kSt K → p < kSt K → AW (fun _ => True) (rmd 8 0 0) mX9_weighPlaces 0 0 86 [some (.ref θ), some (.int (nI (kSt K))), some (.int (nI s)), some (.int (nI p)), none] [] (fun g' => ∃ l, WPok K lD lL ((s * 6 + (p + 1)) * 6 + 0) l ∧ TE θ ε td lD lL be K sp pl bs l sw sx g' ∧ OffS (thS ε td θ) g g') (fun v g' => v = none ∧ P' g') → ∀ q, q ≤ kSt K → AW (fun _ => True) (rmd 8 0 0) mX9_weighPlaces 0 0 38 [some (.ref θ), some (.int (nI (kSt K))), some (.int (nI s)), some (.int (nI p)), some (.int (nI q))] [] (fun g' => ∃ l, WPok K lD lL ((s * 6 + p) * 6 + q) l ∧ TE θ ε td lD lL be K sp pl bs l sw sx g' ∧ OffS (thS ε td θ) g g') (fun v g' => v = none ∧ P' g') := by
    intro s p hs hp kk
    refine up_loop ?_ ?_
    · refine aw_ex fun l => aw_pr fun hw => ?_
      refine r_iload (pc := 38) dX9_weighPlaces_38 rfl ?_
      refine r_iload_n (pc := 40) dX9_weighPlaces_40 rfl ?_
      refine r_icmp_ge (pc := 41) 86 dX9_weighPlaces_41 (by decide) (fun c41 => ?_) (fun c41 => ?_)
      · skip
        refine aw_dr 4 rfl (aw_P (fun g' q => ⟨l, hw.to (fun a b c h1 h2 h3 h4 h5 => by omega), q⟩) kk)
      · skip
        exact absurd (fa_le.mpr (Int.le_refl _)) c41
    · intro q hq ih
      refine aw_ex fun l => aw_pr fun hw => ?_
      have hTq := nI_T (n := q) (by omega)
      have hTp := nI_T (n := p) (by omega)
      refine r_iload (pc := 38) dX9_weighPlaces_38 rfl ?_
      refine r_iload_n (pc := 40) dX9_weighPlaces_40 rfl ?_
      refine r_icmp_ge (pc := 41) 86 dX9_weighPlaces_41 (by decide) (fun c41 => ?_) (fun c41 => ?_)
      · skip
        exact absurd c41 (fun q => by have := fa_le.mp q; omega)
      · skip
        refine r_iload_n (pc := 44) dX9_weighPlaces_44 rfl ?_
        refine r_iload (pc := 45) dX9_weighPlaces_45 rfl ?_
        refine r_icmp_eq (pc := 47) 80 dX9_weighPlaces_47 (by decide) (fun c47 => ?_) (fun c47 => ?_)
        · skip
          refine r_iinc1 (pc := 80) dX9_weighPlaces_80 rfl (Nat.le_of_ble_eq_true rfl) rfl ?_
          dsimp only [lset]
          refine r_goto (pc := 83) 38 dX9_weighPlaces_83 (by decide) ?_
          rw [nI_s]
          first
          | exact ih
          | exact aw_P (fun g' x => ⟨l, hw.skip ok (by have := fa_eq.mp c47; omega) (by omega), x⟩) ih
        · skip
          refine r_aload_n (pc := 50) dX9_weighPlaces_50 rfl ?_
          refine r_getf (pc := 51) (k := 5) dX9_weighPlaces_51 hX9 eX9 (by decide) fX9_31 (fun _ q => q.1.1.o) rfl ?_
          refine r_iload_n (pc := 54) dX9_weighPlaces_54 rfl ?_
          refine r_iload_n (pc := 55) dX9_weighPlaces_55 rfl ?_
          refine r_iload (pc := 56) dX9_weighPlaces_56 rfl ?_
          refine r_Sp (pc := 58) (μ' := mX9_weightAt) dX9_weighPlaces_58 nX9_121 sX9_weightAt kX9_weightAt rfl rfl (rr (by decide) rfl) rfl ⟨Nat.zero_le _, Nat.zero_le _⟩ (fun h => ct_Th_weightAt h) ?_
          refine r_aload_n (pc := 61) dX9_weighPlaces_61 rfl ?_
          refine r_getf (pc := 62) (k := 0) dX9_weighPlaces_62 hX9 eX9 (by decide) fX9_44 (fun _ q => q.1.1.o) rfl ?_
          refine r_aload_n (pc := 65) dX9_weighPlaces_65 rfl ?_
          refine r_getf (pc := 66) (k := 1) dX9_weighPlaces_66 hX9 eX9 (by decide) fX9_10 (fun _ q => q.1.1.o) rfl ?_
          refine r_iload_n (pc := 69) dX9_weighPlaces_69 rfl ?_
          refine r_iload_n (pc := 70) dX9_weighPlaces_70 rfl ?_
          refine r_iload (pc := 71) dX9_weighPlaces_71 rfl ?_
          refine r_iconst (pc := 73) (v := 0) dX9_weighPlaces_73 (by decide) ?_
          rw [← nI_0]
          refine r_Vi (pc := 74) (μ' := mX2_seenBetween) dX9_weighPlaces_74 nX9_106 iX2_seenBetween vX2_seenBetween kX2_seenBetween rfl rfl (rr (by decide) rfl) rfl ⟨Nat.zero_le _, Nat.zero_le _⟩ (fun g' x => ct_Eye_seenBetween (P' := fun g2 => TE θ ε td lD lL be K sp pl bs l sw sx g2 ∧ OffS (thS ε td θ) g g2) x.1.ec ok wb (by omega) (by omega) (by omega) (by omega) (fun g2 a b => ⟨x.1.on a b, x.2.tr (eS b)⟩)) ?_
          refine r_Vv (pc := 77) (μ' := mX5_write) dX9_weighPlaces_77 nX9_103 iX5_write vX5_write kX5_write rfl rfl (rr (by decide) rfl) rfl ⟨Nat.zero_le _, Nat.zero_le _⟩ (fun g' x => ct_Row_write (P' := fun g2 => ∃ l, WPok K lD lL ((s * 6 + p) * 6 + (q + 1)) l ∧ TE θ ε td lD lL be K sp pl bs l sw sx g2 ∧ OffS (thS ε td θ) g g2) x.1.1.2.2.2.2.2.1 (fun g2 a b => ⟨_, hw.put ok hs hp hq, x.1.in (x.1.1.set_sb (by rw [wrL_nI (by omega)] at a; exact a) b) (b.wide (by omega) (by omega)), x.2.tr (tS (b.wide (by omega) (by omega)))⟩)) ?_
          refine r_iinc1 (pc := 80) dX9_weighPlaces_80 rfl (Nat.le_of_ble_eq_true rfl) rfl ?_
          dsimp only [lset]
          refine r_goto (pc := 83) 38 dX9_weighPlaces_83 (by decide) ?_
          rw [nI_s]
          first
          | exact ih
          | exact aw_P (fun g' x => ⟨l, hw.skip ok (by have := fa_eq.mp c47; omega) (by omega), x⟩) ih
  have L2 : ∀ s, s + 1 < kSt K → AW (fun _ => True) (rmd 8 0 0) mX9_weighPlaces 0 0 92 [some (.ref θ), some (.int (nI (kSt K))), some (.int (nI s)), none, none] [] (fun g' => ∃ l, WPok K lD lL (((s + 1) * 6 + 0) * 6 + 0) l ∧ TE θ ε td lD lL be K sp pl bs l sw sx g' ∧ OffS (thS ε td θ) g g') (fun v g' => v = none ∧ P' g') → ∀ p, p ≤ kSt K → AW (fun _ => True) (rmd 8 0 0) mX9_weighPlaces 0 0 30 [some (.ref θ), some (.int (nI (kSt K))), some (.int (nI s)), some (.int (nI p)), none] [] (fun g' => ∃ l, WPok K lD lL ((s * 6 + p) * 6 + 0) l ∧ TE θ ε td lD lL be K sp pl bs l sw sx g' ∧ OffS (thS ε td θ) g g') (fun v g' => v = none ∧ P' g') := by
    intro s hs kk
    refine up_loop ?_ ?_
    · skip
      refine r_iload_n (pc := 30) dX9_weighPlaces_30 rfl ?_
      refine r_iload_n (pc := 31) dX9_weighPlaces_31 rfl ?_
      refine r_icmp_ge (pc := 32) 92 dX9_weighPlaces_32 (by decide) (fun c32 => ?_) (fun c32 => ?_)
      · skip
        refine aw_dr 3 rfl (aw_P (fun g' q => by obtain ⟨l, a, b⟩ := q; exact ⟨l, a.to (fun a b c h1 h2 h3 h4 h5 => by omega), b⟩) kk)
      · skip
        exact absurd (fa_le.mpr (Int.le_refl _)) c32
    · intro p hp ih
      have hTp := nI_T (n := p) (by omega)
      have B : AW (fun _ => True) (rmd 8 0 0) mX9_weighPlaces 0 0 86 [some (.ref θ), some (.int (nI (kSt K))), some (.int (nI s)), some (.int (nI p)), none] [] (fun g' => ∃ l, WPok K lD lL ((s * 6 + (p + 1)) * 6 + 0) l ∧ TE θ ε td lD lL be K sp pl bs l sw sx g' ∧ OffS (thS ε td θ) g g') (fun v g' => v = none ∧ P' g') := by
        refine r_iinc1 (pc := 86) dX9_weighPlaces_86 rfl (Nat.le_of_ble_eq_true rfl) rfl ?_
        dsimp only [lset]
        refine r_goto (pc := 89) 30 dX9_weighPlaces_89 (by decide) ?_
        rw [nI_s]
        exact ih
      refine r_iload_n (pc := 30) dX9_weighPlaces_30 rfl ?_
      refine r_iload_n (pc := 31) dX9_weighPlaces_31 rfl ?_
      refine r_icmp_ge (pc := 32) 92 dX9_weighPlaces_32 (by decide) (fun c32 => ?_) (fun c32 => ?_)
      · skip
        exact absurd c32 (fun q => by have := fa_le.mp q; omega)
      · skip
        refine r_iconst (pc := 35) (v := 0) dX9_weighPlaces_35 (by decide) ?_
        refine r_istore (pc := 36) dX9_weighPlaces_36 (Nat.le_of_ble_eq_true rfl) rfl ?_
        dsimp only [lset]
        exact L3 s p hs hp B 0 (Nat.zero_le _)
  have L : ∀ s, s ≤ kSt K - 1 → AW (fun _ => True) (rmd 8 0 0) mX9_weighPlaces 0 0 21 [some (.ref θ), some (.int (nI (kSt K))), some (.int (nI s)), none, none] [] (fun g' => ∃ l, WPok K lD lL ((s * 6 + 0) * 6 + 0) l ∧ TE θ ε td lD lL be K sp pl bs l sw sx g' ∧ OffS (thS ε td θ) g g') (fun v g' => v = none ∧ P' g') := by
    refine up_loop ?_ ?_
    · refine aw_ex fun l => aw_pr fun hw => ?_
      refine r_iload_n (pc := 21) dX9_weighPlaces_21 rfl ?_
      refine r_iconst (pc := 22) (v := 1) dX9_weighPlaces_22 (by decide) ?_
      refine r_iadd (pc := 23) dX9_weighPlaces_23 ?_
      rw [nI_s, show kSt K - 1 + 1 = kSt K by omega]
      refine r_iload_n (pc := 24) dX9_weighPlaces_24 rfl ?_
      refine r_icmp_ge (pc := 25) 98 dX9_weighPlaces_25 (by decide) (fun c25 => ?_) (fun c25 => ?_)
      · skip
        refine r_return (pc := 98) dX9_weighPlaces_98 rfl ⟨Nat.zero_le _, Nat.zero_le _⟩ (fun gE hg => ?_)
        exact ⟨rfl, hP _ l (hw.to (fun a b c h1 h2 h3 h4 h5 => by omega)) hg.1 hg.2⟩
      · skip
        exact absurd (fa_le.mpr (Int.le_refl _)) c25
    · intro s hs ih
      have hTs := nI_T (n := s + 1) (by omega)
      have B : AW (fun _ => True) (rmd 8 0 0) mX9_weighPlaces 0 0 92 [some (.ref θ), some (.int (nI (kSt K))), some (.int (nI s)), none, none] [] (fun g' => ∃ l, WPok K lD lL (((s + 1) * 6 + 0) * 6 + 0) l ∧ TE θ ε td lD lL be K sp pl bs l sw sx g' ∧ OffS (thS ε td θ) g g') (fun v g' => v = none ∧ P' g') := by
        refine r_iinc1 (pc := 92) dX9_weighPlaces_92 rfl (Nat.le_of_ble_eq_true rfl) rfl ?_
        dsimp only [lset]
        refine r_goto (pc := 95) 21 dX9_weighPlaces_95 (by decide) ?_
        rw [nI_s]
        exact ih
      refine r_iload_n (pc := 21) dX9_weighPlaces_21 rfl ?_
      refine r_iconst (pc := 22) (v := 1) dX9_weighPlaces_22 (by decide) ?_
      refine r_iadd (pc := 23) dX9_weighPlaces_23 ?_
      rw [nI_s]
      refine r_iload_n (pc := 24) dX9_weighPlaces_24 rfl ?_
      refine r_icmp_ge (pc := 25) 98 dX9_weighPlaces_25 (by decide) (fun c25 => ?_) (fun c25 => ?_)
      · skip
        exact absurd c25 (fun q => by have := fa_le.mp q; omega)
      · skip
        refine r_iconst (pc := 28) (v := 0) dX9_weighPlaces_28 (by decide) ?_
        refine r_istore_n (pc := 29) dX9_weighPlaces_29 rfl (Nat.le_of_ble_eq_true rfl) rfl ?_
        dsimp only [lset]
        exact L2 s (by omega) B 0 (Nat.zero_le _)
  refine aw_P (P' := fun g' => TE θ ε td lD lL be K sp pl bs sb sw sx g' ∧ OffS (thS ε td θ) g g') (fun g' e => by subst e; exact ⟨hT, OffS.rf _ _⟩) ?_
  refine r_aload_n (pc := 0) dX9_weighPlaces_0 rfl ?_
  refine r_getf (pc := 1) (k := 1) dX9_weighPlaces_1 hX9 eX9 (by decide) fX9_10 (fun _ q => q.1.1.o) rfl ?_
  refine r_Vi (pc := 4) (μ' := mX0_strips) dX9_weighPlaces_4 nX9_55 iX0_strips vX0_strips kX0_strips rfl rfl (rr (by decide) rfl) rfl ⟨Nat.zero_le _, Nat.zero_le _⟩ (fun g' q => ct_Ceil_strips (q.1.1.2.1 : CeilI _ _ _ _ _ _ _ _ _ _ _ _) q) ?_
  refine r_istore_n (pc := 7) dX9_weighPlaces_7 rfl (Nat.le_of_ble_eq_true rfl) rfl ?_
  dsimp only [lset]
  refine r_aload_n (pc := 8) dX9_weighPlaces_8 rfl ?_
  refine r_getf (pc := 9) (k := 5) dX9_weighPlaces_9 hX9 eX9 (by decide) fX9_31 (fun _ q => q.1.1.o) rfl ?_
  refine r_sipush (pc := 12) (v := 216) dX9_weighPlaces_12 (by decide) ?_
  refine r_iconst (pc := 15) (v := 0) dX9_weighPlaces_15 (by decide) ?_
  refine r_Vv (pc := 16) (μ' := mX5_fill) dX9_weighPlaces_16 nX9_92 iX5_fill vX5_fill kX5_fill rfl rfl (rr (by decide) rfl) rfl ⟨Nat.zero_le _, Nat.zero_le _⟩ (fun g' q => ct_Row_fill (P' := fun g2 => ∃ l, WPok K lD lL ((0 * 6 + 0) * 6 + 0) l ∧ TE θ ε td lD lL be K sp pl bs l sw sx g2 ∧ OffS (thS ε td θ) g g2) q.1.1.2.2.2.2.2.1 (fun g2 a b => ⟨_, ⟨by rw [List.length_replicate]; decide, fun a b c h1 h2 h3 h4 h5 => by omega⟩, q.1.in (q.1.1.set_sb a b) (b.wide (by omega) (by omega)), q.2.tr (tS (b.wide (by omega) (by omega)))⟩)) ?_
  refine r_iconst (pc := 19) (v := 0) dX9_weighPlaces_19 (by decide) ?_
  refine r_istore_n (pc := 20) dX9_weighPlaces_20 rfl (Nat.le_of_ble_eq_true rfl) rfl ?_
  dsimp only [lset]
  exact L 0 (Nat.zero_le _)
end Tho3
