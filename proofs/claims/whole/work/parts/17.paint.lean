/-! ROLL (Ceiling.paint): in numbers -/
def iI (x : Int) : Int32 := Int32.ofInt x
theorem iI_T {x : Int} (h1 : -2000000000 ≤ x) (h2 : x ≤ 2000000000) : (iI x).toInt = x := by
  unfold iI
  rw [Int32.toInt_ofInt, show Int32.size = 4294967296 from rfl]
  exact Int.bmod_eq_of_le (by omega) (by omega)
theorem iI_nI (n : Nat) : iI (n : Int) = nI n := by
  apply Int32.toInt_inj.mp
  unfold iI nI
  rw [Int32.toInt_ofInt, Int32.toInt_ofNat']
def mfN (kd m k : Nat) : Nat := (mfI (nI kd) (nI m) (nI k)).toInt.toNat
def usesN (kd m : Nat) : Nat := (usesI (nI kd) (nI m)).toInt.toNat
theorem mf_ok : ∀ kd, kd < 7 → ∀ m, m < 10 → ∀ k, k < 6 → mfI (nI kd) (nI m) (nI k) = nI (mfN kd m k) ∧ mfN kd m k ≤ 6 := by decide +kernel
theorem uses_ok : ∀ kd, kd < 7 → ∀ m, m < 10 → usesI (nI kd) (nI m) = nI (usesN kd m) ∧ usesN kd m ≤ 3 ∧ 1 ≤ usesN kd m := by decide +kernel
def tab (ro st : Nat) (f : Nat → Nat → Int32) : List Int32 := (List.range (ro * st)).map fun i => f (i / st) (i % st)
theorem tab_len {ro st : Nat} {f : Nat → Nat → Int32} : (tab ro st f).length = ro * st := by unfold tab; rw [List.length_map, List.length_range]
theorem cell_lt {ro st r s : Nat} (hr : r < ro) (hs : s < st) : r * st + s < ro * st := by
  have : (r + 1) * st ≤ ro * st := Nat.mul_le_mul_right st hr
  rw [Nat.succ_mul] at this
  omega
theorem cell_div {st r s : Nat} (hs : s < st) : (r * st + s) / st = r := by
  rw [Nat.add_comm, Nat.add_mul_div_right _ _ (by omega), Nat.div_eq_of_lt hs, Nat.zero_add]
theorem cell_mod {st r s : Nat} (hs : s < st) : (r * st + s) % st = s := by
  rw [Nat.add_comm, Nat.add_mul_mod_self_right, Nat.mod_eq_of_lt hs]
theorem tab_get {ro st i : Nat} {f : Nat → Nat → Int32} (h : i < ro * st) : (tab ro st f).getD i 0 = f (i / st) (i % st) := by
  unfold tab
  rw [List.getD_eq_getElem?_getD, List.getElem?_map, List.getElem?_range h]; rfl
theorem tab_at {ro st r s : Nat} {f : Nat → Nat → Int32} (hr : r < ro) (hs : s < st) : (tab ro st f).getD (r * st + s) 0 = f r s := by
  rw [tab_get (cell_lt hr hs), cell_div hs, cell_mod hs]
def up2 {α : Type} (f : Nat → Nat → α) (r s : Nat) (x : α) : Nat → Nat → α := fun a b => if a = r ∧ b = s then x else f a b
theorem tab_set {ro st r s : Nat} {f : Nat → Nat → Int32} {x : Int32} (hr : r < ro) (hs : s < st) : (tab ro st f).set (r * st + s) x = tab ro st (up2 f r s x) := by
  refine list_ext (by rw [List.length_set, tab_len, tab_len]) fun i hi => ?_
  rw [List.length_set, tab_len] at hi
  rw [getD_set (by rw [tab_len]; exact cell_lt hr hs), tab_get hi, tab_get hi]
  unfold up2
  by_cases e : i = r * st + s
  · rw [if_pos e, if_pos (by rw [e]; exact ⟨cell_div hs, cell_mod hs⟩)]
  · rw [if_neg e, if_neg (fun q => e (by
      have := Nat.div_add_mod i st
      rw [q.1, q.2, Nat.mul_comm] at this
      exact this.symm))]
theorem tab_congr {ro st : Nat} {f f2 : Nat → Nat → Int32} (h : ∀ r s, r < ro → s < st → f r s = f2 r s) : tab ro st f = tab ro st f2 := by
  refine list_ext (by rw [tab_len, tab_len]) fun i hi => ?_
  rw [tab_len] at hi
  have hst : 0 < st := Nat.pos_of_ne_zero fun q => by subst q; simp at hi
  rw [tab_get hi, tab_get hi]
  exact h _ _ (Nat.div_lt_of_lt_mul (by rw [Nat.mul_comm]; exact hi)) (Nat.mod_lt _ hst)
/-- a ceiling in numbers: rows, strips, minute, heat, left, white, size, cans begun, when (-1: none) and white by row and strip -/
abbrev CK : Type := Nat × Nat × Nat × Nat × Nat × Nat × Nat × Nat × (Nat → Nat → Int) × (Nat → Nat → Nat)
def KOk (K : CK) : Prop := (1 ≤ K.1 ∧ K.1 ≤ 6) ∧ (1 ≤ K.2.1 ∧ K.2.1 ≤ 6) ∧ K.2.2.2.1 ≤ 9 ∧ K.2.2.2.2.1 ≤ 99 ∧ K.2.2.2.2.2.1 ≤ 99 ∧ (1 ≤ K.2.2.2.2.2.2.1 ∧ K.2.2.2.2.2.2.1 ≤ 99) ∧ (∀ r s, K.2.2.2.2.2.2.2.2.2 r s ≤ 99)
def CeilK (c : Nat) (K : CK) (g : AH) : Prop := CeilI c (nI K.1) (nI K.2.1) (nI K.2.2.1) (nI K.2.2.2.1) (nI K.2.2.2.2.1) (nI K.2.2.2.2.2.1) (nI K.2.2.2.2.2.2.1) (nI K.2.2.2.2.2.2.2.1) (tab K.1 K.2.1 fun r s => iI (K.2.2.2.2.2.2.2.2.1 r s)) (tab K.1 K.2.1 fun r s => nI (K.2.2.2.2.2.2.2.2.2 r s)) g
def nwN (wh : Nat) : Nat := if wh < 99 then wh + 1 else 0
/-- the can for one more CELL: left, white, cans begun -/
def canN (u si le wh ca : Nat) : Nat × Nat × Nat := if le < u then (si - u, nwN wh, ca + 1) else (le - u, wh, ca)
def rowN (up : Bool) (ro k : Nat) : Nat := if up then ro - 1 - k else k
/-- the k-th CELL of a STRIP -/
def cellK (kd m s : Nat) (up : Bool) (k : Nat) (K : CK) : CK :=
  match K with
  | (ro, st, mi, he, le, wh, si, ca, w, v) => (ro, st, mi + mfN kd m k, he, (canN (usesN kd m) si le wh ca).1, (canN (usesN kd m) si le wh ca).2.1, si, (canN (usesN kd m) si le wh ca).2.2, up2 w (rowN up ro k) s ((mi + mfN kd m k : Nat) : Int), up2 v (rowN up ro k) s (canN (usesN kd m) si le wh ca).2.1)
def paintN (kd m s : Nat) (up : Bool) (K : CK) : Nat → CK
  | 0 => K
  | k + 1 => cellK kd m s up k (paintN kd m s up K k)
/-- a STRIP is ROLLED -/
def paintK (kd m s : Nat) (up : Bool) (K : CK) : CK := paintN kd m s up K K.1
theorem cellK_ok {kd m s k : Nat} {up : Bool} {K : CK} (h : KOk K) : KOk (cellK kd m s up k K) ∧ (cellK kd m s up k K).1 = K.1 ∧ (cellK kd m s up k K).2.1 = K.2.1 ∧ (cellK kd m s up k K).2.2.2.1 = K.2.2.2.1 ∧ (cellK kd m s up k K).2.2.2.2.2.2.1 = K.2.2.2.2.2.2.1 := by
  obtain ⟨ro, st, mi, he, le, wh, si, ca, w, v⟩ := K
  obtain ⟨h1, h2, h3, h4, h5, h6, h7⟩ := h
  dsimp only at h1 h2 h3 h4 h5 h6 h7
  have hw : (canN (usesN kd m) si le wh ca).2.1 ≤ 99 := by
    unfold canN nwN
    split
    · dsimp only; split <;> omega
    · exact h5
  refine ⟨⟨h1, h2, h3, ?_, hw, h6, fun r s2 => ?_⟩, rfl, rfl, rfl, rfl⟩
  · show (canN (usesN kd m) si le wh ca).1 ≤ 99
    unfold canN
    split <;> dsimp only <;> omega
  · show up2 v _ s _ r s2 ≤ 99
    unfold up2
    split
    · exact hw
    · exact h7 r s2
theorem paintN_ok {kd m s : Nat} {up : Bool} {K : CK} (h : KOk K) : ∀ k, KOk (paintN kd m s up K k) ∧ (paintN kd m s up K k).1 = K.1 ∧ (paintN kd m s up K k).2.1 = K.2.1 ∧ (paintN kd m s up K k).2.2.2.1 = K.2.2.2.1 ∧ (paintN kd m s up K k).2.2.2.2.2.2.1 = K.2.2.2.2.2.2.1
  | 0 => ⟨h, rfl, rfl, rfl, rfl⟩
  | k + 1 => by
    obtain ⟨a, b, c, d, e⟩ := paintN_ok (kd := kd) (m := m) (s := s) (up := up) h k
    obtain ⟨a2, b2, c2, d2, e2⟩ := cellK_ok (kd := kd) (m := m) (s := s) (up := up) (k := k) a
    exact ⟨a2, b2.trans b, c2.trans c, d2.trans d, e2.trans e⟩
theorem lt_nI2 {a b : Nat} (ha : a ≤ 4000) (hb : b ≤ 4000) : nI a < nI b ↔ a < b := by rw [fa_lt, nI_T ha, nI_T hb]; omega
theorem nI_sub' {a b : Nat} (h : b ≤ a) : nI a - nI b = nI (a - b) := pk_sub h
theorem max_sub {a u : Nat} (ha : a ≤ 99) (hu : u ≤ 3) : (if (0 : Int32) < nI a - nI u then nI a - nI u else 0) = nI (a - u) := by
  have e : (nI a - nI u).toInt = (a : Int) - u := by
    rw [Int32.toInt_sub, nI_T (by omega), nI_T (by omega)]
    exact Int.bmod_eq_of_le (by omega) (by omega)
  by_cases h : (0 : Int32) < nI a - nI u
  · rw [if_pos h]
    have := fa_lt.mp h
    rw [e, t0] at this
    exact nI_sub' (by omega)
  · rw [if_neg h]
    have : ¬ (0 : Int) < (nI a - nI u).toInt := fun q => h (fa_lt.mpr q)
    rw [e] at this
    rw [show a - u = 0 by omega]
    rfl
theorem nw_eq {wh : Nat} (h : wh ≤ 99) : nwI (nI wh) = nI (nwN wh) := by
  unfold nwI nwN
  by_cases e : wh < 99
  · rw [if_pos e, if_pos (fa_lt.mpr (by rw [nI_T (by omega)]; show (wh : Int) < 99; omega)), nI_s]
  · rw [if_neg e, if_neg (fun q => by have := fa_lt.mp q; rw [nI_T (by omega), show (99 : Int32).toInt = 99 from rfl] at this; omega)]; rfl
theorem up2_f {α β : Type} (h : α → β) (f : Nat → Nat → α) (r s : Nat) (x : α) : (fun a b => h (up2 f r s x a b)) = up2 (fun a b => h (f a b)) r s (h x) := by
  funext a b
  unfold up2
  split <;> rfl
set_option maxHeartbeats 8000000 in
theorem ct_Ceil_paint {c kd m s : Nat} {up : Bool} {K : CK} {g : AH} {P' : AH → Prop} (hK : CeilK c K g) (ok : KOk K) (hkd : kd < 7) (hm : m < 10) (hs : s < K.2.1) (hP : ∀ g', CeilK c (paintK kd m s up K) g' → Off c 5 g g' → P' g') : CV 3 0 0 mX0_paint c [.int (nI kd), .int (nI m), .int (nI s), .int (b2i up)] g (fun v g' => v = none ∧ P' g') := by
  refine ⟨hK.V, ?_⟩
  refine ct_of (by decide) (fun _ _ => Nat.le_of_ble_eq_true rfl) ?_
  dsimp only [pad, ent]
  obtain ⟨hu, hu2, hu3⟩ := uses_ok kd hkd m hm
  obtain ⟨u, hue⟩ : ∃ u, u = usesN kd m := ⟨_, rfl⟩
  rw [← hue] at hu hu2 hu3
  have L : ∀ k, k ≤ K.1 → AW (fun _ => True) (rmd 3 0 0) mX0_paint 0 0 10 [some (.ref c), some (.int (nI kd)), some (.int (nI m)), some (.int (nI s)), some (.int (b2i up)), some (.int (nI u)), some (.int (nI k)), none] [] (fun g' => CeilK c (paintN kd m s up K k) g' ∧ Off c 5 g g') (fun v g' => v = none ∧ P' g') := by
    refine up_loop ?_ ?_
    · obtain ⟨-, hro, -⟩ := paintN_ok (kd := kd) (m := m) (s := s) (up := up) ok K.1
      refine r_iload (pc := 10) dX0_paint_10 rfl ?_
      refine r_aload_n (pc := 12) dX0_paint_12 rfl ?_
      refine r_getf (pc := 13) (k := 2) dX0_paint_13 hX0 eX0 (by decide) fX0_21 (fun _ q => CeilI.o q.1) rfl ?_
      rw [hro]
      refine r_icmp_ge (pc := 16) 123 dX0_paint_16 (by decide) (fun c16 => ?_) (fun c16 => ?_)
      · skip
        refine r_return (pc := 123) dX0_paint_123 rfl ⟨Nat.zero_le _, Nat.zero_le _⟩ (fun gE hg => ?_)
        exact ⟨rfl, hP _ hg.1 hg.2⟩
      · skip
        exact absurd (fa_le.mpr (Int.le_refl _)) c16
    · intro k hk ih
      obtain ⟨ok2, hro, hst, -, hsi⟩ := paintN_ok (kd := kd) (m := m) (s := s) (up := up) ok k
      have hn : paintN kd m s up K (k + 1) = cellK kd m s up k (paintN kd m s up K k) := rfl
      rw [hn] at ih
      obtain ⟨K', hK'⟩ : ∃ K', K' = paintN kd m s up K k := ⟨_, rfl⟩
      rw [← hK'] at ih ok2 hro hst hsi ⊢
      obtain ⟨ro, st, mi, he, le, wh, si, ca, w, v⟩ := K'
      dsimp only at hro hst hsi
      obtain ⟨o1, o2, o3, o4, o5, o6, o7⟩ := ok2
      dsimp only at o1 o2 o3 o4 o5 o6 o7
      obtain ⟨hmf, hmf2⟩ := mf_ok kd hkd m hm k (by omega)
      have hTk := nI_T (n := k) (by omega)
      have hTro := nI_T (n := ro) (by omega)
      have hr : rowN up ro k < ro := by unfold rowN; split <;> omega
      have hs2 : s < st := by omega
      have hcl := cell_lt (ro := ro) (st := st) hr hs2
      have hc36 : ro * st ≤ 36 := Nat.mul_le_mul (show ro ≤ 6 by omega) (show st ≤ 6 by omega)
      unfold cellK at ih
      rw [← hue] at ih
      dsimp only at ih
      -- behind the can
      have J : ∀ a b cc : Nat, a ≤ 99 → canN u si le wh ca = (a - u, b, cc) → AW (fun _ => True) (rmd 3 0 0) mX0_paint 0 0 32 [some (.ref c), some (.int (nI kd)), some (.int (nI m)), some (.int (nI s)), some (.int (b2i up)), some (.int (nI u)), some (.int (nI k)), none] [] (fun g' => CeilI c (nI ro) (nI st) (nI mi) (nI he) (nI a) (nI b) (nI si) (nI cc) (tab ro st fun r s => iI (w r s)) (tab ro st fun r s => nI (v r s)) g' ∧ Off c 5 g g') (fun v g' => v = none ∧ P' g') := by
        intro a b cc ha hcan
        rw [hcan] at ih
        dsimp only at ih
        have Z : AW (fun _ => True) (rmd 3 0 0) mX0_paint 0 0 82 [some (.ref c), some (.int (nI kd)), some (.int (nI m)), some (.int (nI s)), some (.int (b2i up)), some (.int (nI u)), some (.int (nI k)), none] [.int (nI (rowN up ro k))] (fun g' => CeilI c (nI ro) (nI st) (nI (mi + mfN kd m k)) (nI he) (nI (a - u)) (nI b) (nI si) (nI cc) (tab ro st fun r s => iI (w r s)) (tab ro st fun r s => nI (v r s)) g' ∧ Off c 5 g g') (fun v g' => v = none ∧ P' g') := by
          refine r_aload_n (pc := 82) dX0_paint_82 rfl ?_
          refine r_getf (pc := 83) (k := 3) dX0_paint_83 hX0 eX0 (by decide) fX0_25 (fun _ q => q.1.o) rfl ?_
          refine r_imul (pc := 86) dX0_paint_86 ?_
          refine r_iload_n (pc := 87) dX0_paint_87 rfl ?_
          refine r_iadd (pc := 88) dX0_paint_88 ?_
          rw [pk_mul, nI_add]
          refine r_istore (pc := 89) dX0_paint_89 (Nat.le_of_ble_eq_true rfl) rfl ?_
          dsimp only [lset]
          refine r_aload_n (pc := 91) dX0_paint_91 rfl ?_
          refine r_getf (pc := 92) (k := 0) dX0_paint_92 hX0 eX0 (by decide) fX0_14 (fun _ q => q.1.o) rfl ?_
          refine r_iload (pc := 95) dX0_paint_95 rfl ?_
          refine r_aload_n (pc := 97) dX0_paint_97 rfl ?_
          refine r_getf (pc := 98) (k := 4) dX0_paint_98 hX0 eX0 (by decide) fX0_28 (fun _ q => q.1.o) rfl ?_
          refine r_Vv (pc := 101) (μ' := mX5_write) dX0_paint_101 nX0_86 iX5_write vX5_write kX5_write rfl rfl (rr (by decide) rfl) rfl ⟨Nat.zero_le _, Nat.zero_le _⟩ (fun g' q => ct_Row_write (P' := fun g' => CeilI c (nI ro) (nI st) (nI (mi + mfN kd m k)) (nI he) (nI (a - u)) (nI b) (nI si) (nI cc) (tab ro st fun r2 s2 => iI (up2 w (rowN up ro k) s ((mi + mfN kd m k : Nat) : Int) r2 s2)) (tab ro st fun r s => nI (v r s)) g' ∧ Off c 5 g g') q.1.2.2.1 (fun g2 a b => by
                rw [wrL_nI (by omega), tab_set hr hs2, ← iI_nI, ← up2_f iI] at a
                exact ⟨q.1.setN a b, q.2.tr (b.wide (by omega) (by omega))⟩)) ?_
          refine r_aload_n (pc := 104) dX0_paint_104 rfl ?_
          refine r_getf (pc := 105) (k := 1) dX0_paint_105 hX0 eX0 (by decide) fX0_18 (fun _ q => q.1.o) rfl ?_
          refine r_iload (pc := 108) dX0_paint_108 rfl ?_
          refine r_aload_n (pc := 110) dX0_paint_110 rfl ?_
          refine r_getf (pc := 111) (k := 7) dX0_paint_111 hX0 eX0 (by decide) fX0_37 (fun _ q => q.1.o) rfl ?_
          refine r_Vv (pc := 114) (μ' := mX5_write) dX0_paint_114 nX0_86 iX5_write vX5_write kX5_write rfl rfl (rr (by decide) rfl) rfl ⟨Nat.zero_le _, Nat.zero_le _⟩ (fun g' q => ct_Row_write (P' := fun g' => CeilI c (nI ro) (nI st) (nI (mi + mfN kd m k)) (nI he) (nI (a - u)) (nI b) (nI si) (nI cc) (tab ro st fun r2 s2 => iI (up2 w (rowN up ro k) s ((mi + mfN kd m k : Nat) : Int) r2 s2)) (tab ro st fun r2 s2 => nI (up2 v (rowN up ro k) s b r2 s2)) g' ∧ Off c 5 g g') q.1.2.2.2 (fun g2 x y => by
                rw [wrL_nI (by omega), tab_set hr hs2, ← up2_f nI] at x
                exact ⟨q.1.setT x y, q.2.tr (y.wide (by omega) (by omega))⟩)) ?_
          refine r_iinc1 (pc := 117) dX0_paint_117 rfl (Nat.le_of_ble_eq_true rfl) rfl ?_
          dsimp only [lset]
          refine r_goto (pc := 120) 10 dX0_paint_120 (by decide) ?_
          rw [nI_s]
          exact aw_dr 7 rfl ih
        refine r_aload_n (pc := 32) dX0_paint_32 rfl ?_
        refine r_iconst (pc := 33) (v := 0) dX0_paint_33 (by decide) ?_
        refine r_aload_n (pc := 34) dX0_paint_34 rfl ?_
        refine r_getf (pc := 35) (k := 6) dX0_paint_35 hX0 eX0 (by decide) fX0_34 (fun _ q => q.1.o) rfl ?_
        refine r_iload (pc := 38) dX0_paint_38 rfl ?_
        refine r_isub (pc := 40) dX0_paint_40 ?_
        skip
        refine r_mmax (pc := 41) dX0_paint_41 nX0_79 ma_s_max z_math ma_c_max ⟨(Nat.le_of_ble_eq_true rfl), (Nat.le_of_ble_eq_true rfl)⟩ (Nat.le_of_ble_eq_true rfl) ⟨Nat.zero_le _, Nat.zero_le _⟩ rfl ?_
        rw [max_sub ha hu2]
        refine r_putf (pc := 44) (k := 6) (P' := fun g' => CeilI c (nI ro) (nI st) (nI mi) (nI he) (nI (a - u)) (nI b) (nI si) (nI cc) (tab ro st fun r s => iI (w r s)) (tab ro st fun r s => nI (v r s)) g' ∧ Off c 5 g g') tyX0 dX0_paint_44 hX0 tyX0_ok nmX0 eX0 (by decide) fX0_34 rfl rfl (fun _ _ => rfl) (fun _ _ => rfl) (Nat.le_of_ble_eq_true rfl) (fun _ q => q.1.o) (fun _ q => ⟨q.1.put, q.2.set (by omega) (by omega)⟩) ?_
        refine r_aload_n (pc := 47) dX0_paint_47 rfl ?_
        refine r_dup (pc := 48) dX0_paint_48 rfl ?_
        refine r_getf (pc := 49) (k := 4) dX0_paint_49 hX0 eX0 (by decide) fX0_28 (fun _ q => q.1.o) rfl ?_
        refine r_iload_n (pc := 52) dX0_paint_52 rfl ?_
        refine r_iload_n (pc := 53) dX0_paint_53 rfl ?_
        refine r_iload (pc := 54) dX0_paint_54 rfl ?_
        refine r_Sp (pc := 56) (μ' := mX3_minutesFor) dX0_paint_56 nX0_82 sX3_minutesFor kX3_minutesFor rfl rfl (rr (by decide) rfl) rfl ⟨Nat.zero_le _, Nat.zero_le _⟩ (fun h => ct_Kinds_minutesFor h) ?_
        rw [hmf]
        refine r_iadd (pc := 59) dX0_paint_59 ?_
        rw [nI_add]
        refine r_putf (pc := 60) (k := 4) (P' := fun g' => CeilI c (nI ro) (nI st) (nI (mi + mfN kd m k)) (nI he) (nI (a - u)) (nI b) (nI si) (nI cc) (tab ro st fun r s => iI (w r s)) (tab ro st fun r s => nI (v r s)) g' ∧ Off c 5 g g') tyX0 dX0_paint_60 hX0 tyX0_ok nmX0 eX0 (by decide) fX0_28 rfl rfl (fun _ _ => rfl) (fun _ _ => rfl) (Nat.le_of_ble_eq_true rfl) (fun _ q => q.1.o) (fun _ q => ⟨q.1.put, q.2.set (by omega) (by omega)⟩) ?_
        refine r_iload (pc := 63) dX0_paint_63 rfl ?_
        refine r_if_eq (pc := 65) 80 dX0_paint_65 (by decide) (fun c65 => ?_) (fun c65 => ?_)
        · skip
          have e0 : up = false := by
            cases up with
            | false => rfl
            | true => exact absurd c65 (by decide)
          rw [show rowN up ro k = k by unfold rowN; rw [e0]; rfl] at Z
          refine r_iload (pc := 80) dX0_paint_80 rfl ?_
          first
          | exact Z
          | (rw [show nI ro - 1 - nI k = nI (ro - 1 - k) by rw [show (1 : Int32) = nI 1 from rfl, nI_sub' (by omega), nI_sub' (by omega)]]; exact Z)
        · skip
          have e0 : up = true := by
            cases up with
            | true => rfl
            | false => exact absurd (show b2i false = 0 from rfl) c65
          rw [show rowN up ro k = ro - 1 - k by unfold rowN; rw [e0]; rfl] at Z
          refine r_aload_n (pc := 68) dX0_paint_68 rfl ?_
          refine r_getf (pc := 69) (k := 2) dX0_paint_69 hX0 eX0 (by decide) fX0_21 (fun _ q => q.1.o) rfl ?_
          refine r_iconst (pc := 72) (v := 1) dX0_paint_72 (by decide) ?_
          refine r_isub (pc := 73) dX0_paint_73 ?_
          refine r_iload (pc := 74) dX0_paint_74 rfl ?_
          refine r_isub (pc := 76) dX0_paint_76 ?_
          refine r_goto (pc := 77) 82 dX0_paint_77 (by decide) ?_
          first
          | exact Z
          | (rw [show nI ro - 1 - nI k = nI (ro - 1 - k) by rw [show (1 : Int32) = nI 1 from rfl, nI_sub' (by omega), nI_sub' (by omega)]]; exact Z)
      refine r_iload (pc := 10) dX0_paint_10 rfl ?_
      refine r_aload_n (pc := 12) dX0_paint_12 rfl ?_
      refine r_getf (pc := 13) (k := 2) dX0_paint_13 hX0 eX0 (by decide) fX0_21 (fun _ q => CeilI.o q.1) rfl ?_
      refine r_icmp_ge (pc := 16) 123 dX0_paint_16 (by decide) (fun c16 => ?_) (fun c16 => ?_)
      · skip
        exact absurd c16 (fun q => by have := fa_le.mp q; rw [hTk] at this; dsimp only at this; omega)
      · skip
        refine r_aload_n (pc := 19) dX0_paint_19 rfl ?_
        refine r_getf (pc := 20) (k := 6) dX0_paint_20 hX0 eX0 (by decide) fX0_34 (fun _ q => CeilI.o q.1) rfl ?_
        refine r_iload (pc := 23) dX0_paint_23 rfl ?_
        refine r_icmp_ge (pc := 25) 32 dX0_paint_25 (by decide) (fun c25 => ?_) (fun c25 => ?_)
        · skip
          exact J le wh ca o4 (by unfold canN; rw [if_neg (fun q => by have := fa_le.mp c25; rw [nI_T (by omega), nI_T (by dsimp only; omega)] at this; dsimp only at this; omega)])
        · skip
          have kl : le < u := by
            have : ¬ (nI u).toInt ≤ (nI le).toInt := fun q => c25 (fa_le.mpr q)
            rw [nI_T (by omega), nI_T (by omega)] at this
            omega
          refine r_aload_n (pc := 28) dX0_paint_28 rfl ?_
          refine r_Vv (pc := 29) (μ' := mX0_openCan) dX0_paint_29 nX0_76 iX0_openCan vX0_openCan kX0_openCan rfl rfl (rr (by decide) rfl) rfl ⟨Nat.zero_le _, Nat.zero_le _⟩ (fun g' q => ct_Ceil_openCan (P' := fun g' => CeilI c (nI ro) (nI st) (nI mi) (nI he) (nI si) (nI (nwN wh)) (nI si) (nI (ca + 1)) (tab ro st fun r s => iI (w r s)) (tab ro st fun r s => nI (v r s)) g' ∧ Off c 5 g g') q.1 (fun g2 x y => by rw [nw_eq o5, nI_s] at x; exact ⟨x, q.2.tr y⟩)) ?_
          exact J si (nwN wh) (ca + 1) o6.2 (by unfold canN; rw [if_pos kl])
  refine aw_P (P' := fun g' => CeilK c K g' ∧ Off c 5 g g') (fun g' e => by subst e; exact ⟨hK, Off.rf _ _ _⟩) ?_
  refine r_iload_n (pc := 0) dX0_paint_0 rfl ?_
  refine r_iload_n (pc := 1) dX0_paint_1 rfl ?_
  refine r_Sp (pc := 2) (μ' := mX3_uses) dX0_paint_2 nX0_71 sX3_uses kX3_uses rfl rfl (rr (by decide) rfl) rfl ⟨Nat.zero_le _, Nat.zero_le _⟩ (fun h => ct_Kinds_uses h) ?_
  rw [hu]
  refine r_istore (pc := 5) dX0_paint_5 (Nat.le_of_ble_eq_true rfl) rfl ?_
  dsimp only [lset]
  refine r_iconst (pc := 7) (v := 0) dX0_paint_7 (by decide) ?_
  refine r_istore (pc := 8) dX0_paint_8 (Nat.le_of_ble_eq_true rfl) rfl ?_
  dsimp only [lset]
  exact L 0 (Nat.zero_le _)
