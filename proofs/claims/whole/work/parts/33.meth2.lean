/-! THE WHOLE (OneGoCeiling): settings, hands, ROLL, minutes, days -/
-- times
theorem mf_le : ∀ kd, kd < 7 → ∀ m, m < 10 → ∀ k, k < 6 → mfN kd m k ≤ 6 := by decide +kernel
/-- no CELL's time is above b, no minute above a -/
def TB (K : CK) (a b : Nat) : Prop := kMi K ≤ a ∧ ∀ r s, -1 ≤ kW K r s ∧ kW K r s ≤ (b : Int)
theorem TB.cell {kd m s k a b : Nat} {up : Bool} {K : CK} (t : TB K a b) (hkd : kd < 7) (hm : m < 10) (hk : k < 6) (hab : a + 6 ≤ b) : TB (cellK kd m s up k K) (a + 6) b := by
  have hf := mf_le kd hkd m hm k hk
  obtain ⟨ro, st, mi, he, le, wh, si, ca, w, v⟩ := K
  obtain ⟨t1, t2⟩ := t
  have t1 : mi ≤ a := t1
  have t2 : ∀ r s, -1 ≤ w r s ∧ w r s ≤ (b : Int) := t2
  refine ⟨?_, fun r c => ?_⟩
  · show mi + mfN kd m k ≤ a + 6
    omega
  · show -1 ≤ up2 w (rowN up ro k) s ((mi + mfN kd m k : Nat) : Int) r c ∧ up2 w (rowN up ro k) s ((mi + mfN kd m k : Nat) : Int) r c ≤ (b : Int)
    have h2 := t2 r c
    unfold up2
    split <;> omega
theorem TB.paintN {kd m s a b : Nat} {up : Bool} {K : CK} (t : TB K a b) (hkd : kd < 7) (hm : m < 10) (hab : a + 36 ≤ b) : ∀ k, k ≤ 6 → TB (paintN kd m s up K k) (a + 6 * k) b
  | 0 => fun _ => t
  | k + 1 => fun hk => (TB.paintN t hkd hm hab k (by omega)).cell hkd hm (by omega) (by omega)
theorem TB.mono {a b a2 b2 : Nat} {K : CK} (t : TB K a b) (h1 : a ≤ a2) (h2 : b ≤ b2) : TB K a2 b2 := ⟨Nat.le_trans t.1 h1, fun r s => by have := t.2 r s; omega⟩
theorem TB.paint {kd m s a b : Nat} {up : Bool} {K : CK} (t : TB K a b) (ok : KOk K) (hkd : kd < 7) (hm : m < 10) (hab : a + 36 ≤ b) : TB (paintK kd m s up K) (a + 36) b :=
  (TB.paintN t hkd hm hab K.1 ok.1.2).mono (by have := ok.1.2; omega) (Nat.le_refl _)
theorem TB.wb {a b : Nat} {K : CK} (t : TB K a b) (h : b ≤ 30000) : WB K := fun r s => by have := t.2 r s; omega
theorem paintK_ok {kd m s : Nat} {up : Bool} {K : CK} (h : KOk K) : KOk (paintK kd m s up K) ∧ kRo (paintK kd m s up K) = kRo K ∧ kSt (paintK kd m s up K) = kSt K ∧ kHe (paintK kd m s up K) = kHe K := by
  obtain ⟨a, b, c, d, -⟩ := paintN_ok (kd := kd) (m := m) (s := s) (up := up) h K.1
  exact ⟨a, b, c, d⟩
theorem cap_le (x : Nat) : cap9 x ≤ 9999 := by unfold cap9; split <;> omega
theorem TB.setMi {a b x : Nat} {K : CK} (t : TB K a b) : TB (setMi K x) x b := by
  obtain ⟨ro, st, mi, he, le, wh, si, ca, w, v⟩ := K
  exact ⟨Nat.le_refl _, t.2⟩
/-- numbers below 70: a kind and a number -/
theorem km_is : ∀ n, n < 70 → nI n / 10 = nI (n / 10) ∧ nI n % 10 = nI (n % 10) := by decide +kernel
section Meth2
variable {o : Nat} {K K9 : CK} {hs hs9 : List (Nat × Nat)} {lD lL tp wa hd er : List Int32} {z im : Int32} {k : NS} {bt : Nat → Int32} {sh : Nat → List Int32} {h g : AH} {Q : Option Value → AH → Prop}
theorem CeilI.put2 {c : Nat} {ro st mi he le wh si ca ro' st' mi' he' le' wh' si' ca' : Int32} {wn wt : List Int32} {g h : AH} (q : CeilI c ro st mi he le wh si ca wn wt g ∧ Off c 5 h g) : CeilI c ro' st' mi' he' le' wh' si' ca' wn wt (hset g c (.inr (.inr (0, [.ref (c + 1), .ref (c + 3), .int ro', .int st', .int mi', .int he', .int le', .int wh', .int si', .int ca'])))) ∧ Off c 5 h (hset g c (.inr (.inr (0, [.ref (c + 1), .ref (c + 3), .int ro', .int st', .int mi', .int he', .int le', .int wh', .int si', .int ca'])))) := ⟨q.1.put, q.2.set (by omega) (by omega)⟩
set_option maxHeartbeats 4000000 in
theorem ct_Ceil_change {c : Nat} {ro st mi he le wh si ca wv v : Int32} {wn wt : List Int32} (hR : CeilI c ro st mi he le wh si ca wn wt g)
    (h0 : wv = 0 → ∀ g', CeilI c ro st mi v le wh si ca wn wt g' → Off c 5 g g' → Q (some (.int he)) g')
    (h1 : wv = 1 → ∀ g', CeilI c ro st mi he v wh si ca wn wt g' → Off c 5 g g' → Q (some (.int le)) g')
    (h2 : wv = 2 → ∀ g', CeilI c ro st mi he le v si ca wn wt g' → Off c 5 g g' → Q (some (.int wh)) g')
    (h3 : ¬ wv = 0 → ¬ wv = 1 → ¬ wv = 2 → ∀ g', CeilI c ro st mi he le wh v ca wn wt g' → Off c 5 g g' → Q (some (.int si)) g') : CV 1 0 0 mX0_change c [.int wv, .int v] g Q := by
  refine ⟨hR.V, ?_⟩
  refine ct_of (by decide) (fun _ _ => Nat.le_of_ble_eq_true rfl) ?_
  dsimp only [pad, ent]
  refine aw_P (P' := fun g' => CeilI c ro st mi he le wh si ca wn wt g' ∧ Off c 5 g g') (fun g' e => by subst e; exact ⟨hR, Off.rf _ _ _⟩) ?_
  refine r_iload_n (pc := 0) dX0_change_0 rfl ?_
  by_cases s1_0 : wv = 0
  · skip
    refine r_tableAt (pc := 1) 28 0 dX0_change_1 (by rw [s1_0]; decide) (by decide) rfl (by decide) ?_
    refine r_aload_n (pc := 28) dX0_change_28 rfl ?_
    refine r_getf (pc := 29) (k := 5) dX0_change_29 hX0 eX0 (by decide) fX0_31 (fun _ q => q.1.o) rfl ?_
    refine r_istore_n (pc := 32) dX0_change_32 rfl (Nat.le_of_ble_eq_true rfl) rfl ?_
    dsimp only [lset]
    refine r_aload_n (pc := 33) dX0_change_33 rfl ?_
    refine r_iload_n (pc := 34) dX0_change_34 rfl ?_
    refine r_putf (pc := 35) (k := 5) (P' := fun g' => CeilI c ro st mi v le wh si ca wn wt g' ∧ Off c 5 g g') tyX0 dX0_change_35 hX0 tyX0_ok nmX0 eX0 (by decide) fX0_31 rfl rfl (fun _ _ => rfl) (fun _ _ => rfl) (Nat.le_of_ble_eq_true rfl) (fun _ q => q.1.o) (fun _ q => CeilI.put2 q) ?_
    refine r_iload_n (pc := 38) dX0_change_38 rfl ?_
    refine r_ireturn (pc := 39) (ty := .int) dX0_change_39 rfl rfl ⟨Nat.zero_le _, Nat.zero_le _⟩ (fun gE hg => ?_)
    exact h0 s1_0 _ hg.1 hg.2
  by_cases s1_1 : wv = 1
  · skip
    refine r_tableAt (pc := 1) 40 1 dX0_change_1 (by rw [s1_1]; decide) (by decide) rfl (by decide) ?_
    refine r_aload_n (pc := 40) dX0_change_40 rfl ?_
    refine r_getf (pc := 41) (k := 6) dX0_change_41 hX0 eX0 (by decide) fX0_34 (fun _ q => q.1.o) rfl ?_
    refine r_istore_n (pc := 44) dX0_change_44 rfl (Nat.le_of_ble_eq_true rfl) rfl ?_
    dsimp only [lset]
    refine r_aload_n (pc := 45) dX0_change_45 rfl ?_
    refine r_iload_n (pc := 46) dX0_change_46 rfl ?_
    refine r_putf (pc := 47) (k := 6) (P' := fun g' => CeilI c ro st mi he v wh si ca wn wt g' ∧ Off c 5 g g') tyX0 dX0_change_47 hX0 tyX0_ok nmX0 eX0 (by decide) fX0_34 rfl rfl (fun _ _ => rfl) (fun _ _ => rfl) (Nat.le_of_ble_eq_true rfl) (fun _ q => q.1.o) (fun _ q => CeilI.put2 q) ?_
    refine r_iload_n (pc := 50) dX0_change_50 rfl ?_
    refine r_ireturn (pc := 51) (ty := .int) dX0_change_51 rfl rfl ⟨Nat.zero_le _, Nat.zero_le _⟩ (fun gE hg => ?_)
    exact h1 s1_1 _ hg.1 hg.2
  by_cases s1_2 : wv = 2
  · skip
    refine r_tableAt (pc := 1) 52 2 dX0_change_1 (by rw [s1_2]; decide) (by decide) rfl (by decide) ?_
    refine r_aload_n (pc := 52) dX0_change_52 rfl ?_
    refine r_getf (pc := 53) (k := 7) dX0_change_53 hX0 eX0 (by decide) fX0_37 (fun _ q => q.1.o) rfl ?_
    refine r_istore_n (pc := 56) dX0_change_56 rfl (Nat.le_of_ble_eq_true rfl) rfl ?_
    dsimp only [lset]
    refine r_aload_n (pc := 57) dX0_change_57 rfl ?_
    refine r_iload_n (pc := 58) dX0_change_58 rfl ?_
    refine r_putf (pc := 59) (k := 7) (P' := fun g' => CeilI c ro st mi he le v si ca wn wt g' ∧ Off c 5 g g') tyX0 dX0_change_59 hX0 tyX0_ok nmX0 eX0 (by decide) fX0_37 rfl rfl (fun _ _ => rfl) (fun _ _ => rfl) (Nat.le_of_ble_eq_true rfl) (fun _ q => q.1.o) (fun _ q => CeilI.put2 q) ?_
    refine r_iload_n (pc := 62) dX0_change_62 rfl ?_
    refine r_ireturn (pc := 63) (ty := .int) dX0_change_63 rfl rfl ⟨Nat.zero_le _, Nat.zero_le _⟩ (fun gE hg => ?_)
    exact h2 s1_2 _ hg.1 hg.2
  have t1_0 : ¬ (wv).toInt = 0 := fun q => s1_0 (Int32.toInt_inj.mp q)
  have t1_1 : ¬ (wv).toInt = 1 := fun q => s1_1 (Int32.toInt_inj.mp q)
  have t1_2 : ¬ (wv).toInt = 2 := fun q => s1_2 (Int32.toInt_inj.mp q)
  refine r_tableOut (pc := 1) 64 dX0_change_1 (by omega) (by decide) ?_
  refine r_aload_n (pc := 64) dX0_change_64 rfl ?_
  refine r_getf (pc := 65) (k := 8) dX0_change_65 hX0 eX0 (by decide) fX0_40 (fun _ q => q.1.o) rfl ?_
  refine r_istore_n (pc := 68) dX0_change_68 rfl (Nat.le_of_ble_eq_true rfl) rfl ?_
  dsimp only [lset]
  refine r_aload_n (pc := 69) dX0_change_69 rfl ?_
  refine r_iload_n (pc := 70) dX0_change_70 rfl ?_
  refine r_putf (pc := 71) (k := 8) (P' := fun g' => CeilI c ro st mi he le wh v ca wn wt g' ∧ Off c 5 g g') tyX0 dX0_change_71 hX0 tyX0_ok nmX0 eX0 (by decide) fX0_40 rfl rfl (fun _ _ => rfl) (fun _ _ => rfl) (Nat.le_of_ble_eq_true rfl) (fun _ q => q.1.o) (fun _ q => CeilI.put2 q) ?_
  refine r_iload_n (pc := 74) dX0_change_74 rfl ?_
  refine r_ireturn (pc := 75) (ty := .int) dX0_change_75 rfl rfl ⟨Nat.zero_le _, Nat.zero_le _⟩ (fun gE hg => ?_)
  exact h3 s1_0 s1_1 s1_2 _ hg.1 hg.2
/-- a SETTING is changed; what it was -/
def chK (K : CK) (wv : Int32) (v : Nat) : CK := match K with
  | (ro, st, mi, he, le, wh, si, ca, w, t) => if wv = 0 then (ro, st, mi, v, le, wh, si, ca, w, t) else if wv = 1 then (ro, st, mi, he, v, wh, si, ca, w, t) else if wv = 2 then (ro, st, mi, he, le, v, si, ca, w, t) else (ro, st, mi, he, le, wh, v, ca, w, t)
def chV (K : CK) (wv : Int32) : Nat := match K with
  | (_, _, _, he, le, wh, si, _, _, _) => if wv = 0 then he else if wv = 1 then le else if wv = 2 then wh else si
theorem set_rng {wv v : Int32} (h : setOk wv v = true) : 0 ≤ v.toInt ∧ v.toInt ≤ 99 := by
  unfold setOk at h
  split at h
  · have := of_decide_eq_true h; omega
  · split at h
    · have := of_decide_eq_true h; omega
    · split at h
      · have := of_decide_eq_true h; omega
      · split at h
        · have := of_decide_eq_true h; omega
        · exact absurd h Bool.false_ne_true
set_option maxHeartbeats 8000000 in
theorem ct_G_set {wv v : Int32} (q : GA o K hs lD lL tp wa z k bt sh hd er im g) (e1 : setOk wv v = false → ∀ g', GA o K hs lD lL tp wa z k bt sh hd (errL er 1) im g' → Off o 95 g g' → Q (some (.int (-1000000000 - 1))) g') (hP : setOk wv v = true → ∀ g', GA o (chK K wv v.toInt.toNat) hs lD lL tp wa z k bt sh hd er im g' → Off o 95 g g' → Q (some (.int (nI (chV K wv)))) g') : CV 4 0 0 mX11_set o [.int wv, .int v] g Q := by
  refine ⟨q.V, ?_⟩
  refine ct_of (by decide) (fun _ _ => Nat.le_of_ble_eq_true rfl) ?_
  dsimp only [pad, ent]
  obtain ⟨ro, st, mi, he, le, wh, si, ca, w, t⟩ := K
  refine aw_P (P' := fun g' => GA o (ro, st, mi, he, le, wh, si, ca, w, t) hs lD lL tp wa z k bt sh hd er im g' ∧ Off o 95 g g') (fun g' e => by subst e; exact ⟨q, Off.rf _ _ _⟩) ?_
  refine r_iload_n (pc := 0) dX11_set_0 rfl ?_
  refine r_iload_n (pc := 1) dX11_set_1 rfl ?_
  refine r_Sp (pc := 2) (μ' := mX0_isSetting) dX11_set_2 nX11_99 sX0_isSetting kX0_isSetting rfl rfl (rr (by decide) rfl) rfl ⟨Nat.zero_le _, Nat.zero_le _⟩ (fun h => ct_Ceil_isSetting h) ?_
  refine r_if_ne (pc := 5) 14 dX11_set_5 (by decide) (fun c5 => ?_) (fun c5 => ?_)
  · skip
    have k1 := b2i_n0.mp c5
    have hv := set_rng k1
    have h1 : nI v.toInt.toNat = v := nI_tn (by omega) (by omega)
    refine r_aload_n (pc := 14) dX11_set_14 rfl ?_
    refine r_getf (pc := 15) (k := 0) dX11_set_15 hX11 eX11 (by decide) fX11_10 (fun _ q => q.1.oo) rfl ?_
    refine r_getf (pc := 18) (k := 0) dX11_set_18 hX7 eX7 (by decide) fX11_92 (fun _ q => q.1.s) rfl ?_
    refine r_iload_n (pc := 21) dX11_set_21 rfl ?_
    refine r_iload_n (pc := 22) dX11_set_22 rfl ?_
    refine r_Vi (pc := 23) (μ' := mX0_change) dX11_set_23 nX11_103 iX0_change vX0_change kX0_change rfl rfl (rr (by decide) rfl) rfl ⟨Nat.zero_le _, Nat.zero_le _⟩ (fun g' q => ct_Ceil_change (Q := fun r g2 => r = some (.int (nI (chV (ro, st, mi, he, le, wh, si, ca, w, t) wv))) ∧ Q (some (.int (nI (chV (ro, st, mi, he, le, wh, si, ca, w, t) wv)))) g2) (q.1.Ci : CeilI _ _ _ _ _ _ _ _ _ _ _ _)
          (fun c g2 x y => by
            have ev : chV (ro, st, mi, he, le, wh, si, ca, w, t) wv = he := if_pos c
            have ek : chK (ro, st, mi, he, le, wh, si, ca, w, t) wv v.toInt.toNat = (ro, st, mi, v.toInt.toNat, le, wh, si, ca, w, t) := if_pos c
            have r := hP k1 g2 (q.1.setC (K9 := chK (ro, st, mi, he, le, wh, si, ca, w, t) wv v.toInt.toNat) (by rw [ek]; unfold CeilK; dsimp only; rw [h1]; exact x) y) (q.2.tr (y.wide (by omega) (by omega)))
            exact ⟨by rw [ev], r⟩)
          (fun c g2 x y => by
            have ev : chV (ro, st, mi, he, le, wh, si, ca, w, t) wv = le := by subst c; rfl
            have ek : chK (ro, st, mi, he, le, wh, si, ca, w, t) wv v.toInt.toNat = (ro, st, mi, he, v.toInt.toNat, wh, si, ca, w, t) := by subst c; rfl
            have r := hP k1 g2 (q.1.setC (K9 := chK (ro, st, mi, he, le, wh, si, ca, w, t) wv v.toInt.toNat) (by rw [ek]; unfold CeilK; dsimp only; rw [h1]; exact x) y) (q.2.tr (y.wide (by omega) (by omega)))
            exact ⟨by rw [ev], r⟩)
          (fun c g2 x y => by
            have ev : chV (ro, st, mi, he, le, wh, si, ca, w, t) wv = wh := by subst c; rfl
            have ek : chK (ro, st, mi, he, le, wh, si, ca, w, t) wv v.toInt.toNat = (ro, st, mi, he, le, v.toInt.toNat, si, ca, w, t) := by subst c; rfl
            have r := hP k1 g2 (q.1.setC (K9 := chK (ro, st, mi, he, le, wh, si, ca, w, t) wv v.toInt.toNat) (by rw [ek]; unfold CeilK; dsimp only; rw [h1]; exact x) y) (q.2.tr (y.wide (by omega) (by omega)))
            exact ⟨by rw [ev], r⟩)
          (fun c c2 c3 g2 x y => by
            have ev : chV (ro, st, mi, he, le, wh, si, ca, w, t) wv = si := (if_neg c).trans ((if_neg c2).trans (if_neg c3))
            have ek : chK (ro, st, mi, he, le, wh, si, ca, w, t) wv v.toInt.toNat = (ro, st, mi, he, le, wh, v.toInt.toNat, ca, w, t) := (if_neg c).trans ((if_neg c2).trans (if_neg c3))
            have r := hP k1 g2 (q.1.setC (K9 := chK (ro, st, mi, he, le, wh, si, ca, w, t) wv v.toInt.toNat) (by rw [ek]; unfold CeilK; dsimp only; rw [h1]; exact x) y) (q.2.tr (y.wide (by omega) (by omega)))
            exact ⟨by rw [ev], r⟩)) ?_
    refine r_ireturn (pc := 26) (ty := .int) dX11_set_26 rfl rfl ⟨Nat.zero_le _, Nat.zero_le _⟩ (fun gE hg => ?_)
    exact hg
  · skip
    have k1 := b2i_0.mp c5
    refine r_aload_n (pc := 8) dX11_set_8 rfl ?_
    refine r_iconst (pc := 9) (v := 1) dX11_set_9 (by decide) ?_
    refine r_Vi (pc := 10) (μ' := mX11_error) dX11_set_10 nX11_88 iX11_error vX11_error kX11_error rfl rfl (rr (by decide) rfl) rfl ⟨Nat.zero_le _, Nat.zero_le _⟩ (fun g' q => ct_G_error (P' := fun g2 => Q (some (.int (-1000000000 - 1))) g2) q.1 (fun g2 a b => e1 (by first | exact k1 | (rw [k1]; rfl)) g2 a (q.2.tr b))) ?_
    refine r_ireturn (pc := 13) (ty := .int) dX11_set_13 rfl rfl ⟨Nat.zero_le _, Nat.zero_le _⟩ (fun gE hg => ?_)
    exact hg
end Meth2
