/-! THE REFERENCE's constructor -/
def bA (m k i : Nat) : Value := if i < k then .ref (m + (i + 1)) else .null
def bF (m k : Nat) : List Value := [bA m k 0, bA m k 1, bA m k 2, bA m k 3, .int 0, .int 0, bA m k 4, bA m k 5, bA m k 6, .int 0, .int 0, .int 0, .int 0, .int 0, .int 0, .int 0, .int 0, .int 0, .int 0, bA m k 7, bA m k 8, bA m k 9, bA m k 10, bA m k 11, bA m k 12, bA m k 13, .int 0, .int 0, .int 0, .int 0]
/-- being made: k of its arrays are its own, w are made -/
def HB (m : Nat) (h : AH) (k w : Nat) : AH := (m + 1 + w, fun j => if j = m then .inr (.inr (11, bF m k)) else if m < j ∧ j ≤ m + w then .inl (mL (j - m - 1), fun _ => 0) else h.2 j)
theorem HB_new {m k w : Nat} {h : AH} : hnew (HB m h k w) (.inl (mL w, fun _ => 0)) = HB m h k (w + 1) := by
  refine Prod.ext rfl (funext fun j => ?_)
  show (if j = m + 1 + w then _ else if j = m then _ else if m < j ∧ j ≤ m + w then _ else _) = (if j = m then _ else if m < j ∧ j ≤ m + (w + 1) then _ else _)
  by_cases e : j = m + 1 + w
  · rw [if_pos e, if_neg (by omega), if_pos (by omega), show j - m - 1 = w by omega]
  · rw [if_neg e]
    by_cases e2 : j = m
    · rw [if_pos e2, if_pos e2]
    · rw [if_neg e2, if_neg e2]
      by_cases e3 : m < j ∧ j ≤ m + w
      · rw [if_pos e3, if_pos (by omega)]
      · rw [if_neg e3, if_neg (by omega)]
theorem HB_ob {m k w : Nat} {h : AH} : m < (HB m h k w).1 ∧ (HB m h k w).2 m = .inr (.inr (11, bF m k)) := ⟨by show m < m + 1 + w; omega, if_pos rfl⟩
theorem HB_put {m k w f : Nat} {v : Value} {h : AH} (he : (bF m k).set f v = bF m (k + 1)) : hset (HB m h k w) m (.inr (.inr (11, (bF m k).set f v))) = HB m h (k + 1) w := by
  rw [he]
  refine Prod.ext rfl (funext fun j => ?_)
  show (if j = m then _ else if j = m then _ else _) = (if j = m then _ else _)
  by_cases e : j = m
  · rw [if_pos e, if_pos e]
  · rw [if_neg e, if_neg e, if_neg e]
theorem HB_mh {m : Nat} {h : AH} : HB m h 14 14 = mh m (m + 15, h.2) (fun _ => 0) (fun _ _ => 0) := rfl
set_option maxHeartbeats 8000000 in
theorem ct_M_init {m : Nat} {g : AH} (hr : m + 1 = g.1) (ho : g.2 m = .inr (.inr (11, bF m 0))) : CT 3 14 4970 mX12_init [.ref m] g (fun v g' => v = none ∧ ∃ s A, MG K0 [] none none [] [] 1 (K0, [], none, none, [], [], 1) (fun _ => 0) (fun _ => []) [] (List.replicate 6 0) 0 s A ∧ MP m (m + 15, g.2) s A g') := by
  refine ct_of (by decide) (fun _ _ => Nat.le_of_ble_eq_true rfl) ?_
  dsimp only [pad, ent]
  refine aw_P (P' := fun g' => g' = HB m g 0 0) (fun g' e => by
    subst e
    refine Prod.ext hr.symm (funext fun j => ?_)
    show _ = (if j = m then _ else if m < j ∧ j ≤ m + 0 then _ else _)
    by_cases e : j = m
    · rw [if_pos e, e]; exact ho
    · rw [if_neg e, if_neg (by omega)]) ?_
  refine r_aload_n (pc := 0) dX12_init_0 rfl ?_
  refine r_objInit (pc := 1) dX12_init_1 nX12_1 oi_i oi_c ⟨(Nat.le_of_ble_eq_true rfl), (Nat.le_of_ble_eq_true rfl)⟩ (Nat.le_of_ble_eq_true rfl) ?_
  refine r_aload_n (pc := 4) dX12_init_4 rfl ?_
  refine r_sipush (pc := 5) (v := 267) dX12_init_5 (by decide) ?_
  refine r_newa (pc := 8) (n := m + (0 + 1)) (N := mL 0) (P' := fun g' => g' = HB m g 0 (0 + 1)) dX12_init_8 a_int (by rfl) (by decide) (Nat.le_of_ble_eq_true rfl) (Nat.le_of_ble_eq_true rfl) (fun g' e => by rw [e]; show m + 1 + 0 = _; omega) (fun g' e => by rw [e]; exact HB_new) ?_
  refine r_putF (pc := 10) (k := 0) (P' := fun g' => g' = HB m g 1 1) tyX12 dX12_init_10 hX12 tyX12_ok nmX12 eX12 (by decide) fX12_7 rfl rfl rfl rfl (fun _ _ => rfl) (fun _ _ => rfl) (Nat.le_of_ble_eq_true rfl) (fun _ q => by rw [q]; exact HB_ob) (fun _ q => by rw [q]; exact HB_put rfl) ?_
  refine r_aload_n (pc := 13) dX12_init_13 rfl ?_
  refine r_sipush (pc := 14) (v := 267) dX12_init_14 (by decide) ?_
  refine r_newa (pc := 17) (n := m + (1 + 1)) (N := mL 1) (P' := fun g' => g' = HB m g 1 (1 + 1)) dX12_init_17 a_int (by rfl) (by decide) (Nat.le_of_ble_eq_true rfl) (Nat.le_of_ble_eq_true rfl) (fun g' e => by rw [e]; show m + 1 + 1 = _; omega) (fun g' e => by rw [e]; exact HB_new) ?_
  refine r_putF (pc := 19) (k := 1) (P' := fun g' => g' = HB m g 2 2) tyX12 dX12_init_19 hX12 tyX12_ok nmX12 eX12 (by decide) fX12_13 rfl rfl rfl rfl (fun _ _ => rfl) (fun _ _ => rfl) (Nat.le_of_ble_eq_true rfl) (fun _ q => by rw [q]; exact HB_ob) (fun _ q => by rw [q]; exact HB_put rfl) ?_
  refine r_aload_n (pc := 22) dX12_init_22 rfl ?_
  refine r_sipush (pc := 23) (v := 267) dX12_init_23 (by decide) ?_
  refine r_newa (pc := 26) (n := m + (2 + 1)) (N := mL 2) (P' := fun g' => g' = HB m g 2 (2 + 1)) dX12_init_26 a_int (by rfl) (by decide) (Nat.le_of_ble_eq_true rfl) (Nat.le_of_ble_eq_true rfl) (fun g' e => by rw [e]; show m + 1 + 2 = _; omega) (fun g' e => by rw [e]; exact HB_new) ?_
  refine r_putF (pc := 28) (k := 2) (P' := fun g' => g' = HB m g 3 3) tyX12 dX12_init_28 hX12 tyX12_ok nmX12 eX12 (by decide) fX12_16 rfl rfl rfl rfl (fun _ _ => rfl) (fun _ _ => rfl) (Nat.le_of_ble_eq_true rfl) (fun _ q => by rw [q]; exact HB_ob) (fun _ q => by rw [q]; exact HB_put rfl) ?_
  refine r_aload_n (pc := 31) dX12_init_31 rfl ?_
  refine r_sipush (pc := 32) (v := 267) dX12_init_32 (by decide) ?_
  refine r_newa (pc := 35) (n := m + (3 + 1)) (N := mL 3) (P' := fun g' => g' = HB m g 3 (3 + 1)) dX12_init_35 a_int (by rfl) (by decide) (Nat.le_of_ble_eq_true rfl) (Nat.le_of_ble_eq_true rfl) (fun g' e => by rw [e]; show m + 1 + 3 = _; omega) (fun g' e => by rw [e]; exact HB_new) ?_
  refine r_putF (pc := 37) (k := 3) (P' := fun g' => g' = HB m g 4 4) tyX12 dX12_init_37 hX12 tyX12_ok nmX12 eX12 (by decide) fX12_19 rfl rfl rfl rfl (fun _ _ => rfl) (fun _ _ => rfl) (Nat.le_of_ble_eq_true rfl) (fun _ q => by rw [q]; exact HB_ob) (fun _ q => by rw [q]; exact HB_put rfl) ?_
  refine r_aload_n (pc := 40) dX12_init_40 rfl ?_
  refine r_bipush (pc := 41) (v := 6) dX12_init_41 (by decide) ?_
  refine r_newa (pc := 43) (n := m + (4 + 1)) (N := mL 4) (P' := fun g' => g' = HB m g 4 (4 + 1)) dX12_init_43 a_int (by rfl) (by decide) (Nat.le_of_ble_eq_true rfl) (Nat.le_of_ble_eq_true rfl) (fun g' e => by rw [e]; show m + 1 + 4 = _; omega) (fun g' e => by rw [e]; exact HB_new) ?_
  refine r_putF (pc := 45) (k := 6) (P' := fun g' => g' = HB m g 5 5) tyX12 dX12_init_45 hX12 tyX12_ok nmX12 eX12 (by decide) fX12_22 rfl rfl rfl rfl (fun _ _ => rfl) (fun _ _ => rfl) (Nat.le_of_ble_eq_true rfl) (fun _ q => by rw [q]; exact HB_ob) (fun _ q => by rw [q]; exact HB_put rfl) ?_
  refine r_aload_n (pc := 48) dX12_init_48 rfl ?_
  refine r_bipush (pc := 49) (v := 36) dX12_init_49 (by decide) ?_
  refine r_newa (pc := 51) (n := m + (5 + 1)) (N := mL 5) (P' := fun g' => g' = HB m g 5 (5 + 1)) dX12_init_51 a_int (by rfl) (by decide) (Nat.le_of_ble_eq_true rfl) (Nat.le_of_ble_eq_true rfl) (fun g' e => by rw [e]; show m + 1 + 5 = _; omega) (fun g' e => by rw [e]; exact HB_new) ?_
  refine r_putF (pc := 53) (k := 7) (P' := fun g' => g' = HB m g 6 6) tyX12 dX12_init_53 hX12 tyX12_ok nmX12 eX12 (by decide) fX12_25 rfl rfl rfl rfl (fun _ _ => rfl) (fun _ _ => rfl) (Nat.le_of_ble_eq_true rfl) (fun _ q => by rw [q]; exact HB_ob) (fun _ q => by rw [q]; exact HB_put rfl) ?_
  refine r_aload_n (pc := 56) dX12_init_56 rfl ?_
  refine r_sipush (pc := 57) (v := 3600) dX12_init_57 (by decide) ?_
  refine r_newa (pc := 60) (n := m + (6 + 1)) (N := mL 6) (P' := fun g' => g' = HB m g 6 (6 + 1)) dX12_init_60 a_int (by rfl) (by decide) (Nat.le_of_ble_eq_true rfl) (Nat.le_of_ble_eq_true rfl) (fun g' e => by rw [e]; show m + 1 + 6 = _; omega) (fun g' e => by rw [e]; exact HB_new) ?_
  refine r_putF (pc := 62) (k := 8) (P' := fun g' => g' = HB m g 7 7) tyX12 dX12_init_62 hX12 tyX12_ok nmX12 eX12 (by decide) fX12_28 rfl rfl rfl rfl (fun _ _ => rfl) (fun _ _ => rfl) (Nat.le_of_ble_eq_true rfl) (fun _ q => by rw [q]; exact HB_ob) (fun _ q => by rw [q]; exact HB_put rfl) ?_
  refine r_aload_n (pc := 65) dX12_init_65 rfl ?_
  refine r_iconst (pc := 66) (v := 4) dX12_init_66 (by decide) ?_
  refine r_newa (pc := 67) (n := m + (7 + 1)) (N := mL 7) (P' := fun g' => g' = HB m g 7 (7 + 1)) dX12_init_67 a_int (by rfl) (by decide) (Nat.le_of_ble_eq_true rfl) (Nat.le_of_ble_eq_true rfl) (fun g' e => by rw [e]; show m + 1 + 7 = _; omega) (fun g' e => by rw [e]; exact HB_new) ?_
  refine r_putF (pc := 69) (k := 19) (P' := fun g' => g' = HB m g 8 8) tyX12 dX12_init_69 hX12 tyX12_ok nmX12 eX12 (by decide) fX12_31 rfl rfl rfl rfl (fun _ _ => rfl) (fun _ _ => rfl) (Nat.le_of_ble_eq_true rfl) (fun _ q => by rw [q]; exact HB_ob) (fun _ q => by rw [q]; exact HB_put rfl) ?_
  refine r_aload_n (pc := 72) dX12_init_72 rfl ?_
  refine r_iconst (pc := 73) (v := 4) dX12_init_73 (by decide) ?_
  refine r_newa (pc := 74) (n := m + (8 + 1)) (N := mL 8) (P' := fun g' => g' = HB m g 8 (8 + 1)) dX12_init_74 a_int (by rfl) (by decide) (Nat.le_of_ble_eq_true rfl) (Nat.le_of_ble_eq_true rfl) (fun g' e => by rw [e]; show m + 1 + 8 = _; omega) (fun g' e => by rw [e]; exact HB_new) ?_
  refine r_putF (pc := 76) (k := 20) (P' := fun g' => g' = HB m g 9 9) tyX12 dX12_init_76 hX12 tyX12_ok nmX12 eX12 (by decide) fX12_34 rfl rfl rfl rfl (fun _ _ => rfl) (fun _ _ => rfl) (Nat.le_of_ble_eq_true rfl) (fun _ q => by rw [q]; exact HB_ob) (fun _ q => by rw [q]; exact HB_put rfl) ?_
  refine r_aload_n (pc := 79) dX12_init_79 rfl ?_
  refine r_sipush (pc := 80) (v := 160) dX12_init_80 (by decide) ?_
  refine r_newa (pc := 83) (n := m + (9 + 1)) (N := mL 9) (P' := fun g' => g' = HB m g 9 (9 + 1)) dX12_init_83 a_int (by rfl) (by decide) (Nat.le_of_ble_eq_true rfl) (Nat.le_of_ble_eq_true rfl) (fun g' e => by rw [e]; show m + 1 + 9 = _; omega) (fun g' e => by rw [e]; exact HB_new) ?_
  refine r_putF (pc := 85) (k := 21) (P' := fun g' => g' = HB m g 10 10) tyX12 dX12_init_85 hX12 tyX12_ok nmX12 eX12 (by decide) fX12_37 rfl rfl rfl rfl (fun _ _ => rfl) (fun _ _ => rfl) (Nat.le_of_ble_eq_true rfl) (fun _ q => by rw [q]; exact HB_ob) (fun _ q => by rw [q]; exact HB_put rfl) ?_
  refine r_aload_n (pc := 88) dX12_init_88 rfl ?_
  refine r_bipush (pc := 89) (v := 40) dX12_init_89 (by decide) ?_
  refine r_newa (pc := 91) (n := m + (10 + 1)) (N := mL 10) (P' := fun g' => g' = HB m g 10 (10 + 1)) dX12_init_91 a_int (by rfl) (by decide) (Nat.le_of_ble_eq_true rfl) (Nat.le_of_ble_eq_true rfl) (fun g' e => by rw [e]; show m + 1 + 10 = _; omega) (fun g' e => by rw [e]; exact HB_new) ?_
  refine r_putF (pc := 93) (k := 22) (P' := fun g' => g' = HB m g 11 11) tyX12 dX12_init_93 hX12 tyX12_ok nmX12 eX12 (by decide) fX12_40 rfl rfl rfl rfl (fun _ _ => rfl) (fun _ _ => rfl) (Nat.le_of_ble_eq_true rfl) (fun _ q => by rw [q]; exact HB_ob) (fun _ q => by rw [q]; exact HB_put rfl) ?_
  refine r_aload_n (pc := 96) dX12_init_96 rfl ?_
  refine r_bipush (pc := 97) (v := 6) dX12_init_97 (by decide) ?_
  refine r_newa (pc := 99) (n := m + (11 + 1)) (N := mL 11) (P' := fun g' => g' = HB m g 11 (11 + 1)) dX12_init_99 a_int (by rfl) (by decide) (Nat.le_of_ble_eq_true rfl) (Nat.le_of_ble_eq_true rfl) (fun g' e => by rw [e]; show m + 1 + 11 = _; omega) (fun g' e => by rw [e]; exact HB_new) ?_
  refine r_putF (pc := 101) (k := 23) (P' := fun g' => g' = HB m g 12 12) tyX12 dX12_init_101 hX12 tyX12_ok nmX12 eX12 (by decide) fX12_43 rfl rfl rfl rfl (fun _ _ => rfl) (fun _ _ => rfl) (Nat.le_of_ble_eq_true rfl) (fun _ q => by rw [q]; exact HB_ob) (fun _ q => by rw [q]; exact HB_put rfl) ?_
  refine r_aload_n (pc := 104) dX12_init_104 rfl ?_
  refine r_bipush (pc := 105) (v := 6) dX12_init_105 (by decide) ?_
  refine r_newa (pc := 107) (n := m + (12 + 1)) (N := mL 12) (P' := fun g' => g' = HB m g 12 (12 + 1)) dX12_init_107 a_int (by rfl) (by decide) (Nat.le_of_ble_eq_true rfl) (Nat.le_of_ble_eq_true rfl) (fun g' e => by rw [e]; show m + 1 + 12 = _; omega) (fun g' e => by rw [e]; exact HB_new) ?_
  refine r_putF (pc := 109) (k := 24) (P' := fun g' => g' = HB m g 13 13) tyX12 dX12_init_109 hX12 tyX12_ok nmX12 eX12 (by decide) fX12_46 rfl rfl rfl rfl (fun _ _ => rfl) (fun _ _ => rfl) (Nat.le_of_ble_eq_true rfl) (fun _ q => by rw [q]; exact HB_ob) (fun _ q => by rw [q]; exact HB_put rfl) ?_
  refine r_aload_n (pc := 112) dX12_init_112 rfl ?_
  refine r_bipush (pc := 113) (v := 40) dX12_init_113 (by decide) ?_
  refine r_newa (pc := 115) (n := m + (13 + 1)) (N := mL 13) (P' := fun g' => g' = HB m g 13 (13 + 1)) dX12_init_115 a_int (by rfl) (by decide) (Nat.le_of_ble_eq_true rfl) (Nat.le_of_ble_eq_true rfl) (fun g' e => by rw [e]; show m + 1 + 13 = _; omega) (fun g' e => by rw [e]; exact HB_new) ?_
  refine r_putF (pc := 117) (k := 25) (P' := fun g' => g' = HB m g 14 14) tyX12 dX12_init_117 hX12 tyX12_ok nmX12 eX12 (by decide) fX12_49 rfl rfl rfl rfl (fun _ _ => rfl) (fun _ _ => rfl) (Nat.le_of_ble_eq_true rfl) (fun _ q => by rw [q]; exact HB_ob) (fun _ q => by rw [q]; exact HB_put rfl) ?_
  have hm : m + 14 < ((m + 15, g.2) : AH).1 := by show m + 14 < m + 15; omega
  refine aw_P (P' := MP m (m + 15, g.2) (fun _ => 0) (upA (fun _ _ => 0) 0 (fun _ => 0))) (fun g' e => by rw [e, show upA (fun _ _ => 0) 0 (fun _ => 0) = (fun _ _ => (0 : Int32)) from upA_id (A := fun _ _ => 0) (i := 0)]; exact HB_mh) ?_
  refine r_aload_n (pc := 120) dX12_init_120 rfl ?_
  refine r_getf (pc := 121) (k := 0) dX12_init_121 hX12 eX12 (by decide) fX12_7 (fun _ q => mo hm q) rfl ?_
  refine r_bipush (pc := 124) (v := 7) dX12_init_124 (by decide) ?_
  refine r_iconst (pc := 126) (v := 1) dX12_init_126 (by decide) ?_
  refine r_ms (pc := 127) (i := 0) (j := 7) hm dX12_init_127 (by decide) rfl (by decide) ?_
  refine r_aload_n (pc := 128) dX12_init_128 rfl ?_
  refine r_getf (pc := 129) (k := 0) dX12_init_129 hX12 eX12 (by decide) fX12_7 (fun _ q => mo hm q) rfl ?_
  refine r_bipush (pc := 132) (v := 11) dX12_init_132 (by decide) ?_
  refine r_iconst (pc := 134) (v := (-1)) dX12_init_134 (by decide) ?_
  refine r_ms (pc := 135) (i := 0) (j := 11) hm dX12_init_135 (by decide) rfl (by decide) ?_
  refine r_aload_n (pc := 136) dX12_init_136 rfl ?_
  refine r_getf (pc := 137) (k := 0) dX12_init_137 hX12 eX12 (by decide) fX12_7 (fun _ q => mo hm q) rfl ?_
  refine r_bipush (pc := 140) (v := 12) dX12_init_140 (by decide) ?_
  refine r_iconst (pc := 142) (v := (-1)) dX12_init_142 (by decide) ?_
  refine r_ms (pc := 143) (i := 0) (j := 12) hm dX12_init_143 (by decide) rfl (by decide) ?_
  refine r_aload_n (pc := 144) dX12_init_144 rfl ?_
  refine r_getf (pc := 145) (k := 0) dX12_init_145 hX12 eX12 (by decide) fX12_7 (fun _ q => mo hm q) rfl ?_
  refine r_iconst (pc := 148) (v := 3) dX12_init_148 (by decide) ?_
  refine r_iconst (pc := 149) (v := 3) dX12_init_149 (by decide) ?_
  refine r_ms (pc := 150) (i := 0) (j := 3) hm dX12_init_150 (by decide) rfl (by decide) ?_
  refine r_aload_n (pc := 151) dX12_init_151 rfl ?_
  refine r_getf (pc := 152) (k := 0) dX12_init_152 hX12 eX12 (by decide) fX12_7 (fun _ q => mo hm q) rfl ?_
  refine r_iconst (pc := 155) (v := 4) dX12_init_155 (by decide) ?_
  refine r_bipush (pc := 156) (v := 20) dX12_init_156 (by decide) ?_
  refine r_ms (pc := 158) (i := 0) (j := 4) hm dX12_init_158 (by decide) rfl (by decide) ?_
  refine r_aload_n (pc := 159) dX12_init_159 rfl ?_
  refine r_getf (pc := 160) (k := 0) dX12_init_160 hX12 eX12 (by decide) fX12_7 (fun _ q => mo hm q) rfl ?_
  refine r_bipush (pc := 163) (v := 6) dX12_init_163 (by decide) ?_
  refine r_bipush (pc := 165) (v := 20) dX12_init_165 (by decide) ?_
  refine r_ms (pc := 167) (i := 0) (j := 6) hm dX12_init_167 (by decide) rfl (by decide) ?_
  obtain ⟨f, hf⟩ : ∃ f : Nat → Int32, f = upd (upd (upd (upd (upd (upd (fun _ => 0) 7 1) 11 (-1)) 12 (-1)) 3 3) 4 20) 6 20 := ⟨_, rfl⟩
  refine aw_P (P' := MP m (m + 15, g.2) (fun _ => 0) (upA (fun _ _ => 0) 0 f)) (fun g' e => by rw [hf]; first | exact e | (simp only [upA_2, upA_s] at e; exact e)) ?_
  refine r_aload_n (pc := 168) dX12_init_168 rfl ?_
  refine r_iconst (pc := 169) (v := 4) dX12_init_169 (by decide) ?_
  refine r_iconst (pc := 170) (v := 4) dX12_init_170 (by decide) ?_
  refine r_Vv (pc := 171) (μ' := mX12_bare) dX12_init_171 nX12_52 iX12_bare vX12_bare kX12_bare rfl rfl (rr (by omega) rfl) rfl ⟨(Nat.le_of_ble_eq_true rfl), (Nat.le_of_ble_eq_true rfl)⟩ (fun _ q_ => cvq q_ (ct_M_bare hm)) ?_
  refine r_return (pc := 174) dX12_init_174 rfl ⟨(Nat.le_of_ble_eq_true rfl), (Nat.le_of_ble_eq_true rfl)⟩ (fun gE hg => ?_)
  refine ⟨rfl, _, _, ?_, hg⟩
  have e0 : upA (upA (fun _ _ => 0) 0 f) 0 (bareF 4 4 (upA (fun _ _ => 0) 0 f 0)) = upA (fun _ _ => 0) 0 (bareF 4 4 f) := by rw [upA_2, upA_s]
  rw [e0]
  subst hf
  refine ⟨⟨RMk_bare (K := (0, 0, 0, 3, 20, 0, 20, 0, fun _ _ => -1, fun _ _ => 0)) (a := 4) (b := 4) ⟨rfl, rfl, rfl, rfl, rfl, rfl, rfl, fun r s hr hs => absurd hr (Nat.not_lt_zero r)⟩ (by decide) (by decide), RMr_bare ⟨rfl, ⟨⟨rfl, fun i hi => absurd hi (Nat.not_lt_zero i)⟩, Nat.zero_le _⟩, rfl, rfl, ⟨⟨rfl, fun i hi => absurd hi (Nat.not_lt_zero i)⟩, Nat.zero_le _⟩, ⟨rfl, fun i hi => absurd hi (Nat.not_lt_zero i)⟩, Nat.zero_le _⟩⟩, fun h => absurd rfl h, ⟨(if_pos rfl).symm, rfl, rfl⟩, ⟨rfl, fun e he => ?_⟩, fun j hj => ⟨rfl, rfl, Nat.zero_le _, fun i hi => absurd hi (Nat.not_lt_zero i)⟩, rfl, Nat.zero_le _, fun i hi => absurd hi (Nat.not_lt_zero i)⟩
  rw [getD_in (by rw [List.length_replicate]; exact he), List.getElem_replicate]
  rfl
