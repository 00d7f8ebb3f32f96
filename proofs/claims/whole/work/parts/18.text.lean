/-! TEXTS (OneGoCeiling$Text): steps, a stack; what a text gives -/
def TextAt (t : Nat) (use : Int32) (l : List Int32) (g : AH) : Prop := t < g.1 ∧ g.2 t = .inr (.inr (7, [.int use, .ref (t + 1), .ref (t + 3)])) ∧ RowAt (t + 1) 50 l g ∧ ∃ sk, RowAt (t + 3) 50 sk g
theorem TextAt.o {t : Nat} {use : Int32} {l : List Int32} {g : AH} (q : TextAt t use l g) : t < g.1 ∧ g.2 t = .inr (.inr (7, [.int use, .ref (t + 1), .ref (t + 3)])) := ⟨q.1, q.2.1⟩
theorem TextAt.V {t : Nat} {use : Int32} {l : List Int32} {g : AH} (q : TextAt t use l g) : ∃ (fs : List Value) (T : u_T) (N : Nat), t < g.1 ∧ g.2 t = .inr (.inr (7, fs)) ∧ vwCl[7]? = some (RX8, T, N) := ⟨_, _, _, q.1, q.2.1, rfl⟩
theorem TextAt.off {t : Nat} {use : Int32} {l : List Int32} {h g : AH} (q : TextAt t use l h) {lo w : Nat} (o : Off lo w h g) (hd : t + 5 ≤ lo ∨ lo + w ≤ t) : TextAt t use l g := by
  obtain ⟨q1, q2, q3, sk, q4⟩ := q
  exact ⟨by rw [o.1]; exact q1, by rw [o.2 t (by omega)]; exact q2, q3.off o (by omega), sk, q4.off o (by omega)⟩
theorem TextAt.setL {t : Nat} {use : Int32} {l l' : List Int32} {h g : AH} (q : TextAt t use l h) (hR : RowAt (t + 1) 50 l' g) (o : Off (t + 1) 2 h g) : TextAt t use l' g := by
  obtain ⟨q1, q2, q3, sk, q4⟩ := q
  exact ⟨by rw [o.1]; exact q1, by rw [o.2 t (by omega)]; exact q2, hR, sk, q4.off o (by omega)⟩
def heldI (v : Int32) : Int32 := if (0 : Int32) < (if v < 99 then v else 99) then (if v < 99 then v else 99) else 0
def joinI (s x y : Int32) : Int32 :=
  if s = 38 then (if x = 0 then 0 else if y = 0 then 0 else 1) else if s = 42 then x * y else if s = 43 then x + y else if s = 45 then x - y
  else if s = 47 then (if y = 0 then 0 else x / y) else if s = 60 then (if x < y then 1 else 0) else if s = 61 then (if x = y then 1 else 0) else if s = 62 then (if y < x then 1 else 0) else if s = 124 then (if x = 0 then (if y = 0 then 0 else 1) else 1) else (if y = 0 then 0 else x % y)
def nameI (use s : Int32) : Int32 := if s = 114 then 0 else if s = 115 then 1 else if s = (if use = 0 then 104 else 119) then 2 else -1
def stepS (a b c s : Int32) (stk : List Int32) : Option (List Int32) :=
  if s < 10000 then some (s :: stk) else if s < 20000 then some ((if s = 10000 then a else if s = 10001 then b else c) :: stk)
  else if s = 20033 then (match stk with | x :: r => some ((if x = 0 then 1 else 0) :: r) | [] => none)
  else (match stk with | y :: x :: r => some (joinI (s - 20000) x y :: r) | _ => none)
def runS (a b c : Int32) : List Int32 → List Int32 → Option (List Int32)
  | [], stk => some stk
  | s :: l, stk => match stepS a b c s stk with
    | some stk' => runS a b c l stk'
    | none => none
set_option maxHeartbeats 4000000 in
theorem ct_Text_held {k : Int32} (g : AH) : CT 2 0 0 mX8_held [.int k] g (fun v g' => v = some (.int (heldI k)) ∧ g' = g) := by
  refine ct_of (by decide) (fun _ _ => Nat.le_of_ble_eq_true rfl) ?_
  dsimp only [pad, ent]
  refine r_iconst (pc := 0) (v := 0) dX8_held_0 (by decide) ?_
  refine r_bipush (pc := 1) (v := 99) dX8_held_1 (by decide) ?_
  refine r_iload_n (pc := 3) dX8_held_3 rfl ?_
  refine r_mmin (pc := 4) dX8_held_4 nX8_51 ma_s_min z_math ma_c_min ⟨(Nat.le_of_ble_eq_true rfl), (Nat.le_of_ble_eq_true rfl)⟩ (Nat.le_of_ble_eq_true rfl) ⟨Nat.zero_le _, Nat.zero_le _⟩ rfl ?_
  refine r_mmax (pc := 7) dX8_held_7 nX8_57 ma_s_max z_math ma_c_max ⟨(Nat.le_of_ble_eq_true rfl), (Nat.le_of_ble_eq_true rfl)⟩ (Nat.le_of_ble_eq_true rfl) ⟨Nat.zero_le _, Nat.zero_le _⟩ rfl ?_
  refine r_ireturn (pc := 10) (ty := .int) dX8_held_10 rfl rfl ⟨Nat.zero_le _, Nat.zero_le _⟩ (fun gE hg => ?_)
  exact ⟨rfl, hg⟩
set_option maxHeartbeats 4000000 in
theorem ct_Text_join {s x y : Int32} (g : AH) : CT 1 0 0 mX8_join [.int s, .int x, .int y] g (fun v g' => v = some (.int (joinI s x y)) ∧ g' = g) := by
  refine ct_of (by decide) (fun _ _ => Nat.le_of_ble_eq_true rfl) ?_
  dsimp only [pad, ent]
  unfold joinI
  refine r_iload_n (pc := 0) dX8_join_0 rfl ?_
  by_cases s1_0 : s = 38
  · skip
    refine r_lookup (pc := 1) (off := 97) 98 dX8_join_1 (by decide) (by rw [s1_0]; decide) (by decide) ?_
    subst s1_0
    refine r_iload_n (pc := 98) dX8_join_98 rfl ?_
    refine r_if_eq (pc := 99) 110 dX8_join_99 (by decide) (fun c99 => ?_) (fun c99 => ?_)
    · skip
      refine r_iconst (pc := 110) (v := 0) dX8_join_110 (by decide) ?_
      refine r_ireturn (pc := 111) (ty := .int) dX8_join_111 rfl rfl ⟨Nat.zero_le _, Nat.zero_le _⟩ (fun gE hg => ?_)
      refine ⟨?_, hg⟩
      simp (decide := true) only [*, if_true, if_false, not_true_eq_false, not_false_eq_true]
    · skip
      refine r_iload_n (pc := 102) dX8_join_102 rfl ?_
      refine r_if_eq (pc := 103) 110 dX8_join_103 (by decide) (fun c103 => ?_) (fun c103 => ?_)
      · skip
        refine r_iconst (pc := 110) (v := 0) dX8_join_110 (by decide) ?_
        refine r_ireturn (pc := 111) (ty := .int) dX8_join_111 rfl rfl ⟨Nat.zero_le _, Nat.zero_le _⟩ (fun gE hg => ?_)
        refine ⟨?_, hg⟩
        simp (decide := true) only [*, if_true, if_false, not_true_eq_false, not_false_eq_true]
      · skip
        refine r_iconst (pc := 106) (v := 1) dX8_join_106 (by decide) ?_
        refine r_goto (pc := 107) 111 dX8_join_107 (by decide) ?_
        refine r_ireturn (pc := 111) (ty := .int) dX8_join_111 rfl rfl ⟨Nat.zero_le _, Nat.zero_le _⟩ (fun gE hg => ?_)
        refine ⟨?_, hg⟩
        simp (decide := true) only [*, if_true, if_false, not_true_eq_false, not_false_eq_true]
  by_cases s1_1 : s = 42
  · skip
    refine r_lookup (pc := 1) (off := 152) 153 dX8_join_1 (by decide) (by rw [s1_1]; decide) (by decide) ?_
    subst s1_1
    refine r_iload_n (pc := 153) dX8_join_153 rfl ?_
    refine r_iload_n (pc := 154) dX8_join_154 rfl ?_
    refine r_imul (pc := 155) dX8_join_155 ?_
    refine r_ireturn (pc := 156) (ty := .int) dX8_join_156 rfl rfl ⟨Nat.zero_le _, Nat.zero_le _⟩ (fun gE hg => ?_)
    refine ⟨?_, hg⟩
    simp (decide := true) only [*, if_true, if_false, not_true_eq_false, not_false_eq_true]
  by_cases s1_2 : s = 43
  · skip
    refine r_lookup (pc := 1) (off := 144) 145 dX8_join_1 (by decide) (by rw [s1_2]; decide) (by decide) ?_
    subst s1_2
    refine r_iload_n (pc := 145) dX8_join_145 rfl ?_
    refine r_iload_n (pc := 146) dX8_join_146 rfl ?_
    refine r_iadd (pc := 147) dX8_join_147 ?_
    refine r_ireturn (pc := 148) (ty := .int) dX8_join_148 rfl rfl ⟨Nat.zero_le _, Nat.zero_le _⟩ (fun gE hg => ?_)
    refine ⟨?_, hg⟩
    simp (decide := true) only [*, if_true, if_false, not_true_eq_false, not_false_eq_true]
  by_cases s1_3 : s = 45
  · skip
    refine r_lookup (pc := 1) (off := 148) 149 dX8_join_1 (by decide) (by rw [s1_3]; decide) (by decide) ?_
    subst s1_3
    refine r_iload_n (pc := 149) dX8_join_149 rfl ?_
    refine r_iload_n (pc := 150) dX8_join_150 rfl ?_
    refine r_isub (pc := 151) dX8_join_151 ?_
    refine r_ireturn (pc := 152) (ty := .int) dX8_join_152 rfl rfl ⟨Nat.zero_le _, Nat.zero_le _⟩ (fun gE hg => ?_)
    refine ⟨?_, hg⟩
    simp (decide := true) only [*, if_true, if_false, not_true_eq_false, not_false_eq_true]
  by_cases s1_4 : s = 47
  · skip
    refine r_lookup (pc := 1) (off := 156) 157 dX8_join_1 (by decide) (by rw [s1_4]; decide) (by decide) ?_
    subst s1_4
    refine r_iload_n (pc := 157) dX8_join_157 rfl ?_
    refine r_if_ne (pc := 158) 165 dX8_join_158 (by decide) (fun c158 => ?_) (fun c158 => ?_)
    · skip
      refine r_iload_n (pc := 165) dX8_join_165 rfl ?_
      refine r_iload_n (pc := 166) dX8_join_166 rfl ?_
      refine r_idiv (pc := 167) dX8_join_167 c158 ?_
      refine r_ireturn (pc := 168) (ty := .int) dX8_join_168 rfl rfl ⟨Nat.zero_le _, Nat.zero_le _⟩ (fun gE hg => ?_)
      refine ⟨?_, hg⟩
      simp (decide := true) only [*, if_true, if_false, not_true_eq_false, not_false_eq_true]
    · skip
      refine r_iconst (pc := 161) (v := 0) dX8_join_161 (by decide) ?_
      refine r_goto (pc := 162) 168 dX8_join_162 (by decide) ?_
      refine r_ireturn (pc := 168) (ty := .int) dX8_join_168 rfl rfl ⟨Nat.zero_le _, Nat.zero_le _⟩ (fun gE hg => ?_)
      refine ⟨?_, hg⟩
      simp (decide := true) only [*, if_true, if_false, not_true_eq_false, not_false_eq_true]
  by_cases s1_5 : s = 60
  · skip
    refine r_lookup (pc := 1) (off := 111) 112 dX8_join_1 (by decide) (by rw [s1_5]; decide) (by decide) ?_
    subst s1_5
    refine r_iload_n (pc := 112) dX8_join_112 rfl ?_
    refine r_iload_n (pc := 113) dX8_join_113 rfl ?_
    refine r_icmp_ge (pc := 114) 121 dX8_join_114 (by decide) (fun c114 => ?_) (fun c114 => ?_)
    · skip
      rw [if_neg (Int32.not_lt.mpr c114)]
      refine r_iconst (pc := 121) (v := 0) dX8_join_121 (by decide) ?_
      refine r_ireturn (pc := 122) (ty := .int) dX8_join_122 rfl rfl ⟨Nat.zero_le _, Nat.zero_le _⟩ (fun gE hg => ?_)
      refine ⟨?_, hg⟩
      simp (decide := true) only [*, if_true, if_false, not_true_eq_false, not_false_eq_true]
    · skip
      rw [if_pos (Int32.not_le.mp c114)]
      refine r_iconst (pc := 117) (v := 1) dX8_join_117 (by decide) ?_
      refine r_goto (pc := 118) 122 dX8_join_118 (by decide) ?_
      refine r_ireturn (pc := 122) (ty := .int) dX8_join_122 rfl rfl ⟨Nat.zero_le _, Nat.zero_le _⟩ (fun gE hg => ?_)
      refine ⟨?_, hg⟩
      simp (decide := true) only [*, if_true, if_false, not_true_eq_false, not_false_eq_true]
  by_cases s1_6 : s = 61
  · skip
    refine r_lookup (pc := 1) (off := 122) 123 dX8_join_1 (by decide) (by rw [s1_6]; decide) (by decide) ?_
    subst s1_6
    refine r_iload_n (pc := 123) dX8_join_123 rfl ?_
    refine r_iload_n (pc := 124) dX8_join_124 rfl ?_
    refine r_icmp_ne (pc := 125) 132 dX8_join_125 (by decide) (fun c125 => ?_) (fun c125 => ?_)
    · skip
      refine r_iconst (pc := 132) (v := 0) dX8_join_132 (by decide) ?_
      refine r_ireturn (pc := 133) (ty := .int) dX8_join_133 rfl rfl ⟨Nat.zero_le _, Nat.zero_le _⟩ (fun gE hg => ?_)
      refine ⟨?_, hg⟩
      simp (decide := true) only [*, if_true, if_false, not_true_eq_false, not_false_eq_true]
    · skip
      refine r_iconst (pc := 128) (v := 1) dX8_join_128 (by decide) ?_
      refine r_goto (pc := 129) 133 dX8_join_129 (by decide) ?_
      refine r_ireturn (pc := 133) (ty := .int) dX8_join_133 rfl rfl ⟨Nat.zero_le _, Nat.zero_le _⟩ (fun gE hg => ?_)
      refine ⟨?_, hg⟩
      simp (decide := true) only [*, if_true, if_false, not_true_eq_false, not_false_eq_true]
  by_cases s1_7 : s = 62
  · skip
    refine r_lookup (pc := 1) (off := 133) 134 dX8_join_1 (by decide) (by rw [s1_7]; decide) (by decide) ?_
    subst s1_7
    refine r_iload_n (pc := 134) dX8_join_134 rfl ?_
    refine r_iload_n (pc := 135) dX8_join_135 rfl ?_
    refine r_icmp_le (pc := 136) 143 dX8_join_136 (by decide) (fun c136 => ?_) (fun c136 => ?_)
    · skip
      rw [if_neg (Int32.not_lt.mpr c136)]
      refine r_iconst (pc := 143) (v := 0) dX8_join_143 (by decide) ?_
      refine r_ireturn (pc := 144) (ty := .int) dX8_join_144 rfl rfl ⟨Nat.zero_le _, Nat.zero_le _⟩ (fun gE hg => ?_)
      refine ⟨?_, hg⟩
      simp (decide := true) only [*, if_true, if_false, not_true_eq_false, not_false_eq_true]
    · skip
      rw [if_pos (Int32.not_le.mp c136)]
      refine r_iconst (pc := 139) (v := 1) dX8_join_139 (by decide) ?_
      refine r_goto (pc := 140) 144 dX8_join_140 (by decide) ?_
      refine r_ireturn (pc := 144) (ty := .int) dX8_join_144 rfl rfl ⟨Nat.zero_le _, Nat.zero_le _⟩ (fun gE hg => ?_)
      refine ⟨?_, hg⟩
      simp (decide := true) only [*, if_true, if_false, not_true_eq_false, not_false_eq_true]
  by_cases s1_8 : s = 124
  · skip
    refine r_lookup (pc := 1) (off := 83) 84 dX8_join_1 (by decide) (by rw [s1_8]; decide) (by decide) ?_
    subst s1_8
    refine r_iload_n (pc := 84) dX8_join_84 rfl ?_
    refine r_if_ne (pc := 85) 92 dX8_join_85 (by decide) (fun c85 => ?_) (fun c85 => ?_)
    · skip
      refine r_iconst (pc := 92) (v := 1) dX8_join_92 (by decide) ?_
      refine r_goto (pc := 93) 97 dX8_join_93 (by decide) ?_
      refine r_ireturn (pc := 97) (ty := .int) dX8_join_97 rfl rfl ⟨Nat.zero_le _, Nat.zero_le _⟩ (fun gE hg => ?_)
      refine ⟨?_, hg⟩
      simp (decide := true) only [*, if_true, if_false, not_true_eq_false, not_false_eq_true]
    · skip
      refine r_iload_n (pc := 88) dX8_join_88 rfl ?_
      refine r_if_eq (pc := 89) 96 dX8_join_89 (by decide) (fun c89 => ?_) (fun c89 => ?_)
      · skip
        refine r_iconst (pc := 96) (v := 0) dX8_join_96 (by decide) ?_
        refine r_ireturn (pc := 97) (ty := .int) dX8_join_97 rfl rfl ⟨Nat.zero_le _, Nat.zero_le _⟩ (fun gE hg => ?_)
        refine ⟨?_, hg⟩
        simp (decide := true) only [*, if_true, if_false, not_true_eq_false, not_false_eq_true]
      · skip
        refine r_iconst (pc := 92) (v := 1) dX8_join_92 (by decide) ?_
        refine r_goto (pc := 93) 97 dX8_join_93 (by decide) ?_
        refine r_ireturn (pc := 97) (ty := .int) dX8_join_97 rfl rfl ⟨Nat.zero_le _, Nat.zero_le _⟩ (fun gE hg => ?_)
        refine ⟨?_, hg⟩
        simp (decide := true) only [*, if_true, if_false, not_true_eq_false, not_false_eq_true]
  have t1_0 : ¬ (s).toInt = 38 := fun q => s1_0 (Int32.toInt_inj.mp q)
  have t1_1 : ¬ (s).toInt = 42 := fun q => s1_1 (Int32.toInt_inj.mp q)
  have t1_2 : ¬ (s).toInt = 43 := fun q => s1_2 (Int32.toInt_inj.mp q)
  have t1_3 : ¬ (s).toInt = 45 := fun q => s1_3 (Int32.toInt_inj.mp q)
  have t1_4 : ¬ (s).toInt = 47 := fun q => s1_4 (Int32.toInt_inj.mp q)
  have t1_5 : ¬ (s).toInt = 60 := fun q => s1_5 (Int32.toInt_inj.mp q)
  have t1_6 : ¬ (s).toInt = 61 := fun q => s1_6 (Int32.toInt_inj.mp q)
  have t1_7 : ¬ (s).toInt = 62 := fun q => s1_7 (Int32.toInt_inj.mp q)
  have t1_8 : ¬ (s).toInt = 124 := fun q => s1_8 (Int32.toInt_inj.mp q)
  refine r_lookup (pc := 1) (off := 168) 169 dX8_join_1 (by decide) (by simp [Op.lookupswitch.offset, t1_0, t1_1, t1_2, t1_3, t1_4, t1_5, t1_6, t1_7, t1_8] <;> omega) (by decide) ?_
  rw [if_neg s1_0, if_neg s1_1, if_neg s1_2, if_neg s1_3, if_neg s1_4, if_neg s1_5, if_neg s1_6, if_neg s1_7, if_neg s1_8]
  refine r_iload_n (pc := 169) dX8_join_169 rfl ?_
  refine r_if_ne (pc := 170) 177 dX8_join_170 (by decide) (fun c170 => ?_) (fun c170 => ?_)
  · skip
    refine r_iload_n (pc := 177) dX8_join_177 rfl ?_
    refine r_iload_n (pc := 178) dX8_join_178 rfl ?_
    refine r_irem' (pc := 179) dX8_join_179 c170 ?_
    refine r_ireturn (pc := 180) (ty := .int) dX8_join_180 rfl rfl ⟨Nat.zero_le _, Nat.zero_le _⟩ (fun gE hg => ?_)
    refine ⟨?_, hg⟩
    simp (decide := true) only [*, if_true, if_false, not_true_eq_false, not_false_eq_true]
  · skip
    refine r_iconst (pc := 173) (v := 0) dX8_join_173 (by decide) ?_
    refine r_goto (pc := 174) 180 dX8_join_174 (by decide) ?_
    refine r_ireturn (pc := 180) (ty := .int) dX8_join_180 rfl rfl ⟨Nat.zero_le _, Nat.zero_le _⟩ (fun gE hg => ?_)
    refine ⟨?_, hg⟩
    simp (decide := true) only [*, if_true, if_false, not_true_eq_false, not_false_eq_true]
set_option maxHeartbeats 4000000 in
theorem ct_Text_nameOf {t : Nat} {use s : Int32} {l : List Int32} {g : AH} {P' : AH → Prop} (hR : TextAt t use l g) (hP : P' g) : CV 1 0 0 mX8_nameOf t [.int s] g (fun v g' => v = some (.int (nameI use s)) ∧ P' g') := by
  refine ⟨hR.V, ?_⟩
  refine ct_of (by decide) (fun _ _ => Nat.le_of_ble_eq_true rfl) ?_
  dsimp only [pad, ent]
  unfold nameI
  refine aw_P (P' := fun g' => TextAt t use l g' ∧ g' = g) (fun g' e => by subst e; exact ⟨hR, rfl⟩) ?_
  refine r_iload_n (pc := 0) dX8_nameOf_0 rfl ?_
  refine r_bipush (pc := 1) (v := 114) dX8_nameOf_1 (by decide) ?_
  refine r_icmp_ne (pc := 3) 8 dX8_nameOf_3 (by decide) (fun c3 => ?_) (fun c3 => ?_)
  · skip
    rw [if_neg c3]
    refine r_iload_n (pc := 8) dX8_nameOf_8 rfl ?_
    refine r_bipush (pc := 9) (v := 115) dX8_nameOf_9 (by decide) ?_
    refine r_icmp_ne (pc := 11) 16 dX8_nameOf_11 (by decide) (fun c11 => ?_) (fun c11 => ?_)
    · skip
      rw [if_neg c11]
      refine r_iload_n (pc := 16) dX8_nameOf_16 rfl ?_
      refine r_aload_n (pc := 17) dX8_nameOf_17 rfl ?_
      refine r_getf (pc := 18) (k := 0) dX8_nameOf_18 hX8 eX8 (by decide) fX8_21 (fun _ q => q.1.o) rfl ?_
      refine r_if_ne (pc := 21) 29 dX8_nameOf_21 (by decide) (fun c21 => ?_) (fun c21 => ?_)
      · skip
        rw [if_neg c21]
        refine r_bipush (pc := 29) (v := 119) dX8_nameOf_29 (by decide) ?_
        refine r_icmp_ne (pc := 31) 38 dX8_nameOf_31 (by decide) (fun c31 => ?_) (fun c31 => ?_)
        · skip
          rw [if_neg c31]
          refine r_iconst (pc := 38) (v := (-1)) dX8_nameOf_38 (by decide) ?_
          refine r_ireturn (pc := 39) (ty := .int) dX8_nameOf_39 rfl rfl ⟨Nat.zero_le _, Nat.zero_le _⟩ (fun gE hg => ?_)
          exact ⟨rfl, by rw [hg.2]; exact hP⟩
        · skip
          rw [if_pos c31]
          refine r_iconst (pc := 34) (v := 2) dX8_nameOf_34 (by decide) ?_
          refine r_goto (pc := 35) 39 dX8_nameOf_35 (by decide) ?_
          refine r_ireturn (pc := 39) (ty := .int) dX8_nameOf_39 rfl rfl ⟨Nat.zero_le _, Nat.zero_le _⟩ (fun gE hg => ?_)
          exact ⟨rfl, by rw [hg.2]; exact hP⟩
      · skip
        rw [if_pos c21]
        refine r_bipush (pc := 24) (v := 104) dX8_nameOf_24 (by decide) ?_
        refine r_goto (pc := 26) 31 dX8_nameOf_26 (by decide) ?_
        refine r_icmp_ne (pc := 31) 38 dX8_nameOf_31 (by decide) (fun c31 => ?_) (fun c31 => ?_)
        · skip
          rw [if_neg c31]
          refine r_iconst (pc := 38) (v := (-1)) dX8_nameOf_38 (by decide) ?_
          refine r_ireturn (pc := 39) (ty := .int) dX8_nameOf_39 rfl rfl ⟨Nat.zero_le _, Nat.zero_le _⟩ (fun gE hg => ?_)
          exact ⟨rfl, by rw [hg.2]; exact hP⟩
        · skip
          rw [if_pos c31]
          refine r_iconst (pc := 34) (v := 2) dX8_nameOf_34 (by decide) ?_
          refine r_goto (pc := 35) 39 dX8_nameOf_35 (by decide) ?_
          refine r_ireturn (pc := 39) (ty := .int) dX8_nameOf_39 rfl rfl ⟨Nat.zero_le _, Nat.zero_le _⟩ (fun gE hg => ?_)
          exact ⟨rfl, by rw [hg.2]; exact hP⟩
    · skip
      rw [if_pos c11]
      refine r_iconst (pc := 14) (v := 1) dX8_nameOf_14 (by decide) ?_
      refine r_ireturn (pc := 15) (ty := .int) dX8_nameOf_15 rfl rfl ⟨Nat.zero_le _, Nat.zero_le _⟩ (fun gE hg => ?_)
      exact ⟨rfl, by rw [hg.2]; exact hP⟩
  · skip
    rw [if_pos c3]
    refine r_iconst (pc := 6) (v := 0) dX8_nameOf_6 (by decide) ?_
    refine r_ireturn (pc := 7) (ty := .int) dX8_nameOf_7 rfl rfl ⟨Nat.zero_le _, Nat.zero_le _⟩ (fun gE hg => ?_)
    exact ⟨rfl, by rw [hg.2]; exact hP⟩
set_option maxHeartbeats 4000000 in
theorem ct_Text_takeSteps {t r cap2 : Nat} {use : Int32} {l l2 : List Int32} {g : AH} {P' : AH → Prop} (hR : TextAt t use l g) (hR2 : RowAt r cap2 l2 g) (hd : r + 2 ≤ t ∨ t + 5 ≤ r) (hc : l2.length ≤ 50) (hP : ∀ g', TextAt t use l2 g' → Off t 5 g g' → P' g') : CV 3 0 0 mX8_takeSteps t [.ref r] g (fun v g' => v = none ∧ P' g') := by
  refine ⟨hR.V, ?_⟩
  refine ct_of (by decide) (fun _ _ => Nat.le_of_ble_eq_true rfl) ?_
  dsimp only [pad, ent]
  refine aw_P (P' := fun g' => TextAt t use l g' ∧ g' = g) (fun g' e => by subst e; exact ⟨hR, rfl⟩) ?_
  refine r_aload_n (pc := 0) dX8_takeSteps_0 rfl ?_
  refine r_getf (pc := 1) (k := 1) dX8_takeSteps_1 hX8 eX8 (by decide) fX8_14 (fun _ q => q.1.o) rfl ?_
  refine r_aload_n (pc := 4) dX8_takeSteps_4 rfl ?_
  refine r_Vv (pc := 5) (μ' := mX5_take) dX8_takeSteps_5 nX8_25 iX5_take vX5_take kX5_take rfl rfl (rr (by decide) rfl) rfl ⟨Nat.zero_le _, Nat.zero_le _⟩ (fun g' q => ct_Row_take (cap2 := cap2) (l2 := l2) q.1.2.2.1 (by rw [q.2]; exact hR2) (by omega) (fun g2 a b => by rw [take_all hc] at a; rw [q.2] at b; exact hP g2 (hR.setL a b) (b.wide (by omega) (by omega)))) ?_
  refine r_return (pc := 8) dX8_takeSteps_8 rfl ⟨Nat.zero_le _, Nat.zero_le _⟩ (fun gE hg => ?_)
  exact ⟨rfl, hg⟩
set_option maxHeartbeats 4000000 in
theorem ct_Text_take {t t2 : Nat} {use use2 : Int32} {l l2 : List Int32} {g : AH} {P' : AH → Prop} (hR : TextAt t use l g) (hR2 : TextAt t2 use2 l2 g) (hd : t + 5 ≤ t2 ∨ t2 + 5 ≤ t) (hP : ∀ g', TextAt t use l2 g' → Off t 5 g g' → P' g') : CV 3 0 0 mX8_take t [.ref t2] g (fun v g' => v = none ∧ P' g') := by
  refine ⟨hR.V, ?_⟩
  refine ct_of (by decide) (fun _ _ => Nat.le_of_ble_eq_true rfl) ?_
  dsimp only [pad, ent]
  have hc := hR2.2.2.1.2.1
  refine aw_P (P' := fun g' => TextAt t use l g' ∧ g' = g) (fun g' e => by subst e; exact ⟨hR, rfl⟩) ?_
  refine r_aload_n (pc := 0) dX8_take_0 rfl ?_
  refine r_getf (pc := 1) (k := 1) dX8_take_1 hX8 eX8 (by decide) fX8_14 (fun _ q => q.1.o) rfl ?_
  refine r_aload_n (pc := 4) dX8_take_4 rfl ?_
  refine r_getf (pc := 5) (k := 1) dX8_take_5 hX8 eX8 (by decide) fX8_14 (fun _ q => q.2.symm ▸ hR2.o) rfl ?_
  refine r_Vv (pc := 8) (μ' := mX5_take) dX8_take_8 nX8_25 iX5_take vX5_take kX5_take rfl rfl (rr (by decide) rfl) rfl ⟨Nat.zero_le _, Nat.zero_le _⟩ (fun g' q => ct_Row_take (cap2 := 50) (l2 := l2) q.1.2.2.1 (by rw [q.2]; exact hR2.2.2.1) (by omega) (fun g2 a b => by rw [take_all hc] at a; rw [q.2] at b; exact hP g2 (hR.setL a b) (b.wide (by omega) (by omega)))) ?_
  refine r_return (pc := 11) dX8_take_11 rfl ⟨Nat.zero_le _, Nat.zero_le _⟩ (fun gE hg => ?_)
  exact ⟨rfl, hg⟩
/-- what a text of these steps gives -/
def lawI (use : Int32) (l : List Int32) (a b c : Int32) : Int32 := if l.length = 0 then heldI (if use = 0 then 10 - c else 1 + c) else heldI (((runS a b c l []).getD []).headD 0)
theorem subadd1 (x : Int32) : x - 1 + 1 = x := Int32.sub_add_cancel x 1
theorem getD_cons {x : Int32} {l : List Int32} {j : Nat} : (x :: l).getD (j + 1) 0 = l.getD j 0 := rfl
set_option maxHeartbeats 8000000 in
theorem ct_Text_value {t : Nat} {use a b c x : Int32} {l : List Int32} {g : AH} {P' : AH → Prop} (hR : TextAt t use l g) (hrun : l.length = 0 ∨ runS a b c l [] = some [x]) (hP : ∀ g', TextAt t use l g' → Off t 5 g g' → P' g') : CV 4 0 0 mX8_value t [.int a, .int b, .int c] g (fun v g' => v = some (.int (lawI use l a b c)) ∧ P' g') := by
  refine ⟨hR.V, ?_⟩
  refine ct_of (by decide) (fun _ _ => Nat.le_of_ble_eq_true rfl) ?_
  dsimp only [pad, ent]
  have hl := hR.2.2.1.2.1
  have hTn := nI_T (n := l.length) (by omega)
  have L : ∀ (rest : List Int32) (i : Nat) (stk : List Int32), l.drop i = rest → i ≤ l.length → stk.length ≤ i → runS a b c rest stk = some [x] → ∀ S : List Int32, S.length = l.length → (∀ j, j < stk.length → S.getD j 0 = stk.getD (stk.length - 1 - j) 0) → AW (fun _ => True) (rmd 4 0 0) mX8_value 0 0 52 [some (.ref t), some (.int a), some (.int b), some (.int c), some (.int (nI stk.length - 1)), some (.int (nI i)), none] [] (fun g' => (t < g'.1 ∧ g'.2 t = .inr (.inr (7, [.int use, .ref (t + 1), .ref (t + 3)])) ∧ RowAt (t + 1) 50 l g' ∧ RowAt (t + 3) 50 S g') ∧ Off t 5 g g') (fun v g' => v = some (.int (heldI x)) ∧ P' g') := by
    intro rest
    induction rest with
    | nil =>
      intro i stk hi hil hsl hrun S hS hSv
      have hil2 : i = l.length := by
        have := congrArg List.length hi
        rw [List.length_drop, List.length_nil] at this
        omega
      subst hil2
      have hst : stk = [x] := Option.some.inj hrun
      subst hst
      have h0 := hSv 0 Nat.one_pos
      refine r_iload (pc := 52) dX8_value_52 rfl ?_
      refine r_aload_n (pc := 54) dX8_value_54 rfl ?_
      refine r_getf (pc := 55) (k := 1) dX8_value_55 hX8 eX8 (by decide) fX8_14 (fun _ q => ⟨q.1.1, q.1.2.1⟩) rfl ?_
      refine r_Vi (pc := 58) (μ' := mX5_length) dX8_value_58 nX8_29 iX5_length vX5_length kX5_length rfl rfl (rr (by decide) rfl) rfl ⟨Nat.zero_le _, Nat.zero_le _⟩ (fun g' q => ct_Row_length q.1.2.2.1 q) ?_
      refine r_icmp_ge (pc := 61) 232 dX8_value_61 (by decide) (fun c61 => ?_) (fun c61 => ?_)
      · skip
        refine r_aload_n (pc := 232) dX8_value_232 rfl ?_
        refine r_getf (pc := 233) (k := 2) dX8_value_233 hX8 eX8 (by decide) fX8_18 (fun _ q => ⟨q.1.1, q.1.2.1⟩) rfl ?_
        refine r_iload (pc := 236) dX8_value_236 rfl ?_
        refine r_Vi (pc := 238) (μ' := mX5_at) dX8_value_238 nX8_41 iX5_at vX5_at kX5_at rfl rfl (rr (by decide) rfl) rfl ⟨Nat.zero_le _, Nat.zero_le _⟩ (fun g' q => ct_Row_at q.1.2.2.2 q) ?_
        rw [show nI [x].length - 1 = nI 0 from nI_pred 0, atL_nI (by omega), h0]
        refine r_Sp (pc := 241) (μ' := mX8_held) dX8_value_241 nX8_33 sX8_held kX8_held rfl rfl (rr (by decide) rfl) rfl ⟨Nat.zero_le _, Nat.zero_le _⟩ (fun h => ct_Text_held h) ?_
        refine r_ireturn (pc := 244) (ty := .int) dX8_value_244 rfl rfl ⟨Nat.zero_le _, Nat.zero_le _⟩ (fun gE hg => ?_)
        exact ⟨rfl, hP _ ⟨hg.1.1, hg.1.2.1, hg.1.2.2.1, S, hg.1.2.2.2⟩ hg.2⟩
      · skip
        exact absurd (fa_le.mpr (Int.le_refl _)) c61
    | cons s rest ih =>
      intro i stk hi hil hsl hrun S hS hSv
      have hil2 : i < l.length := by
        have := congrArg List.length hi
        rw [List.length_drop, List.length_cons] at this
        omega
      have hTi := nI_T (n := i) (by omega)
      have hs : l.getD i 0 = s := by
        have e : (l.drop i).getD 0 0 = s := by rw [hi]; rfl
        rw [List.getD_eq_getElem?_getD, List.getElem?_drop, Nat.add_zero] at e
        rw [List.getD_eq_getElem?_getD]; exact e
      have hi2 : l.drop (i + 1) = rest := by
        have e : (l.drop i).drop 1 = rest := by rw [hi]; rfl
        rw [List.drop_drop] at e; exact e
      -- a step done: on
      have go : ∀ (stk' : List Int32), stepS a b c s stk = some stk' → stk'.length ≤ i + 1 → ∀ S' : List Int32, S'.length = l.length → (∀ j, j < stk'.length → S'.getD j 0 = stk'.getD (stk'.length - 1 - j) 0) → AW (fun _ => True) (rmd 4 0 0) mX8_value 0 0 226 [some (.ref t), some (.int a), some (.int b), some (.int c), some (.int (nI stk'.length - 1)), some (.int (nI i)), some (.int s)] [] (fun g' => (t < g'.1 ∧ g'.2 t = .inr (.inr (7, [.int use, .ref (t + 1), .ref (t + 3)])) ∧ RowAt (t + 1) 50 l g' ∧ RowAt (t + 3) 50 S' g') ∧ Off t 5 g g') (fun v g' => v = some (.int (heldI x)) ∧ P' g') := by
        intro stk' h1 h2 S' h3 h4
        rw [runS, h1] at hrun
        refine r_iinc1 (pc := 226) dX8_value_226 rfl (Nat.le_of_ble_eq_true rfl) rfl ?_
        dsimp only [lset]
        refine r_goto (pc := 229) 52 dX8_value_229 (by decide) ?_
        rw [nI_s]
        exact aw_dr 6 rfl (ih (i + 1) stk' hi2 (by omega) h2 hrun S' h3 h4)
      have sv : ∀ (S' : List Int32) (g' g2 : AH), ((t < g'.1 ∧ g'.2 t = .inr (.inr (7, [.int use, .ref (t + 1), .ref (t + 3)])) ∧ RowAt (t + 1) 50 l g' ∧ RowAt (t + 3) 50 S g') ∧ Off t 5 g g') → RowAt (t + 3) 50 S' g2 → Off (t + 3) 2 g' g2 → ((t < g2.1 ∧ g2.2 t = .inr (.inr (7, [.int use, .ref (t + 1), .ref (t + 3)])) ∧ RowAt (t + 1) 50 l g2 ∧ RowAt (t + 3) 50 S' g2) ∧ Off t 5 g g2) := by
        intro S' g' g2 q h1 h2
        exact ⟨⟨by rw [h2.1]; exact q.1.1, by rw [h2.2 t (by omega)]; exact q.1.2.1, q.1.2.2.1.off h2 (by omega), h1⟩, q.2.tr (h2.wide (by omega) (by omega))⟩
      -- a number is laid on the stack
      have push : ∀ v : Int32, stepS a b c s stk = some (v :: stk) → AW (fun _ => True) (rmd 4 0 0) mX8_value 0 0 226 [some (.ref t), some (.int a), some (.int b), some (.int c), some (.int (nI stk.length)), some (.int (nI i)), some (.int s)] [] (fun g' => (t < g'.1 ∧ g'.2 t = .inr (.inr (7, [.int use, .ref (t + 1), .ref (t + 3)])) ∧ RowAt (t + 1) 50 l g' ∧ RowAt (t + 3) 50 (S.set stk.length v) g') ∧ Off t 5 g g') (fun v g' => v = some (.int (heldI x)) ∧ P' g') := by
        intro v h1
        have := go (v :: stk) h1 (by rw [List.length_cons]; omega) (S.set stk.length v) (by rw [List.length_set]; exact hS) (fun j hj => by
          rw [List.length_cons] at hj ⊢
          rw [getD_set (by omega)]
          by_cases e : j = stk.length
          · rw [if_pos e, e, show stk.length + 1 - 1 - stk.length = 0 by omega]; rfl
          · rw [if_neg e, hSv j (by omega), show stk.length + 1 - 1 - j = (stk.length - 1 - j) + 1 by omega, getD_cons])
        rw [List.length_cons, show nI (stk.length + 1) - 1 = nI stk.length from nI_pred _] at this
        exact this
      refine r_iload (pc := 52) dX8_value_52 rfl ?_
      refine r_aload_n (pc := 54) dX8_value_54 rfl ?_
      refine r_getf (pc := 55) (k := 1) dX8_value_55 hX8 eX8 (by decide) fX8_14 (fun _ q => ⟨q.1.1, q.1.2.1⟩) rfl ?_
      refine r_Vi (pc := 58) (μ' := mX5_length) dX8_value_58 nX8_29 iX5_length vX5_length kX5_length rfl rfl (rr (by decide) rfl) rfl ⟨Nat.zero_le _, Nat.zero_le _⟩ (fun g' q => ct_Row_length q.1.2.2.1 q) ?_
      refine r_icmp_ge (pc := 61) 232 dX8_value_61 (by decide) (fun c61 => ?_) (fun c61 => ?_)
      · skip
        exact absurd c61 (fun q => by have := fa_le.mp q; omega)
      · skip
        refine r_aload_n (pc := 64) dX8_value_64 rfl ?_
        refine r_getf (pc := 65) (k := 1) dX8_value_65 hX8 eX8 (by decide) fX8_14 (fun _ q => ⟨q.1.1, q.1.2.1⟩) rfl ?_
        refine r_iload (pc := 68) dX8_value_68 rfl ?_
        refine r_Vi (pc := 70) (μ' := mX5_at) dX8_value_70 nX8_41 iX5_at vX5_at kX5_at rfl rfl (rr (by decide) rfl) rfl ⟨Nat.zero_le _, Nat.zero_le _⟩ (fun g' q => ct_Row_at q.1.2.2.1 q) ?_
        rw [atL_nI (show i ≤ 4000 by omega), hs]
        refine r_istore (pc := 73) dX8_value_73 (Nat.le_of_ble_eq_true rfl) rfl ?_
        dsimp only [lset]
        refine r_iload (pc := 75) dX8_value_75 rfl ?_
        refine r_sipush (pc := 77) (v := 10000) dX8_value_77 (by decide) ?_
        refine r_icmp_ge (pc := 80) 100 dX8_value_80 (by decide) (fun c80 => ?_) (fun c80 => ?_)
        · skip
          have k80 : ¬ s < 10000 := fun q => Int32.not_lt.mpr c80 q
          refine r_iload (pc := 100) dX8_value_100 rfl ?_
          refine r_sipush (pc := 102) (v := 20000) dX8_value_102 (by decide) ?_
          refine r_icmp_ge (pc := 105) 148 dX8_value_105 (by decide) (fun c105 => ?_) (fun c105 => ?_)
          · skip
            have k105 : ¬ s < 20000 := fun q => Int32.not_lt.mpr c105 q
            refine r_iload (pc := 148) dX8_value_148 rfl ?_
            refine r_sipush (pc := 150) (v := 20033) dX8_value_150 (by decide) ?_
            refine r_icmp_ne (pc := 153) 185 dX8_value_153 (by decide) (fun c153 => ?_) (fun c153 => ?_)
            · skip
              obtain ⟨y, z, r, hr⟩ : ∃ y z r, stk = y :: z :: r := by
                cases stk with
                | nil => rw [runS, show stepS a b c s [] = none by unfold stepS; rw [if_neg k80, if_neg k105, if_neg c153]] at hrun; cases hrun
                | cons y r => cases r with
                  | nil => rw [runS, show stepS a b c s [y] = none by unfold stepS; rw [if_neg k80, if_neg k105, if_neg c153]] at hrun; cases hrun
                  | cons z r => exact ⟨y, z, r, rfl⟩
              subst hr
              rw [List.length_cons, List.length_cons] at hsl
              have hy := hSv (r.length + 1) (by rw [List.length_cons, List.length_cons]; omega)
              rw [List.length_cons, List.length_cons, show r.length + 1 + 1 - 1 - (r.length + 1) = 0 by omega] at hy
              have hz := hSv r.length (by rw [List.length_cons, List.length_cons]; omega)
              rw [List.length_cons, List.length_cons, show r.length + 1 + 1 - 1 - r.length = 1 by omega] at hz
              have hst : stepS a b c s (y :: z :: r) = some (joinI (s - 20000) z y :: r) := by unfold stepS; rw [if_neg k80, if_neg k105, if_neg c153]
              have go2 := go _ hst (by rw [List.length_cons]; omega) (S.set r.length (joinI (s - 20000) z y)) (by rw [List.length_set]; exact hS) (fun j hj => by
                rw [List.length_cons] at hj ⊢
                rw [getD_set (by omega)]
                by_cases e : j = r.length
                · rw [if_pos e, e, show r.length + 1 - 1 - r.length = 0 by omega]; rfl
                · rw [if_neg e, hSv j (by rw [List.length_cons, List.length_cons]; omega), List.length_cons, List.length_cons, show r.length + 1 + 1 - 1 - j = (r.length - 1 - j) + 1 + 1 by omega, getD_cons, getD_cons, show r.length + 1 - 1 - j = (r.length - 1 - j) + 1 by omega, getD_cons])
              rw [List.length_cons, show nI (r.length + 1) - 1 = nI r.length from nI_pred _] at go2
              rw [List.length_cons, List.length_cons, show nI (r.length + 1 + 1) - 1 = nI (r.length + 1) from nI_pred _]
              refine r_iincm (pc := 185) dX8_value_185 rfl (Nat.le_of_ble_eq_true rfl) rfl ?_
              dsimp only [lset]
              rw [show nI (r.length + 1) - 1 = nI r.length from nI_pred _]
              refine r_aload_n (pc := 188) dX8_value_188 rfl ?_
              refine r_getf (pc := 189) (k := 2) dX8_value_189 hX8 eX8 (by decide) fX8_18 (fun _ q => ⟨q.1.1, q.1.2.1⟩) rfl ?_
              refine r_iload (pc := 192) dX8_value_192 rfl ?_
              refine r_iload (pc := 194) dX8_value_194 rfl ?_
              refine r_sipush (pc := 196) (v := 20000) dX8_value_196 (by decide) ?_
              refine r_isub (pc := 199) dX8_value_199 ?_
              refine r_aload_n (pc := 200) dX8_value_200 rfl ?_
              refine r_getf (pc := 201) (k := 2) dX8_value_201 hX8 eX8 (by decide) fX8_18 (fun _ q => ⟨q.1.1, q.1.2.1⟩) rfl ?_
              refine r_iload (pc := 204) dX8_value_204 rfl ?_
              refine r_Vi (pc := 206) (μ' := mX5_at) dX8_value_206 nX8_41 iX5_at vX5_at kX5_at rfl rfl (rr (by decide) rfl) rfl ⟨Nat.zero_le _, Nat.zero_le _⟩ (fun g' q => ct_Row_at q.1.2.2.2 q) ?_
              refine r_aload_n (pc := 209) dX8_value_209 rfl ?_
              refine r_getf (pc := 210) (k := 2) dX8_value_210 hX8 eX8 (by decide) fX8_18 (fun _ q => ⟨q.1.1, q.1.2.1⟩) rfl ?_
              refine r_iload (pc := 213) dX8_value_213 rfl ?_
              refine r_iconst (pc := 215) (v := 1) dX8_value_215 (by decide) ?_
              refine r_iadd (pc := 216) dX8_value_216 ?_
              rw [nI_s]
              refine r_Vi (pc := 217) (μ' := mX5_at) dX8_value_217 nX8_41 iX5_at vX5_at kX5_at rfl rfl (rr (by decide) rfl) rfl ⟨Nat.zero_le _, Nat.zero_le _⟩ (fun g' q => ct_Row_at q.1.2.2.2 q) ?_
              rw [atL_nI (show r.length ≤ 4000 by omega), atL_nI (show r.length + 1 ≤ 4000 by omega), hy, hz]
              refine r_Sp (pc := 220) (μ' := mX8_join) dX8_value_220 nX8_47 sX8_join kX8_join rfl rfl (rr (by decide) rfl) rfl ⟨Nat.zero_le _, Nat.zero_le _⟩ (fun h => ct_Text_join h) ?_
              refine r_Vv (pc := 223) (μ' := mX5_write) dX8_value_223 nX8_44 iX5_write vX5_write kX5_write rfl rfl (rr (by decide) rfl) rfl ⟨Nat.zero_le _, Nat.zero_le _⟩ (fun g' q => ct_Row_write q.1.2.2.2 (fun g2 h1 h2 => sv _ g' g2 q (by rw [wrL_nI (show r.length ≤ 4000 by omega)] at h1; exact h1) h2)) ?_
              exact go2
            · skip
              obtain ⟨y, r, hr⟩ : ∃ y r, stk = y :: r := by
                cases stk with
                | cons y r => exact ⟨y, r, rfl⟩
                | nil => rw [runS, show stepS a b c s [] = none by unfold stepS; rw [if_neg k80, if_neg k105, if_pos c153]] at hrun; cases hrun
              subst hr
              rw [List.length_cons] at hsl
              have hy := hSv r.length (by rw [List.length_cons]; omega)
              rw [List.length_cons, show r.length + 1 - 1 - r.length = 0 by omega] at hy
              have hst : stepS a b c s (y :: r) = some ((if y = 0 then 1 else 0) :: r) := by unfold stepS; rw [if_neg k80, if_neg k105, if_pos c153]
              have go2 := go _ hst (by rw [List.length_cons]; omega) (S.set r.length (if y = 0 then 1 else 0)) (by rw [List.length_set]; exact hS) (fun j hj => by
                rw [List.length_cons] at hj ⊢
                rw [getD_set (by omega)]
                by_cases e : j = r.length
                · rw [if_pos e, e, show r.length + 1 - 1 - r.length = 0 by omega]; rfl
                · rw [if_neg e, hSv j (by rw [List.length_cons]; omega), List.length_cons, show r.length + 1 - 1 - j = (r.length - 1 - j) + 1 by omega, getD_cons, getD_cons])
              rw [List.length_cons, show nI (r.length + 1) - 1 = nI r.length from nI_pred _] at go2
              rw [List.length_cons, show nI (r.length + 1) - 1 = nI r.length from nI_pred _]
              refine r_aload_n (pc := 156) dX8_value_156 rfl ?_
              refine r_getf (pc := 157) (k := 2) dX8_value_157 hX8 eX8 (by decide) fX8_18 (fun _ q => ⟨q.1.1, q.1.2.1⟩) rfl ?_
              refine r_iload (pc := 160) dX8_value_160 rfl ?_
              refine r_aload_n (pc := 162) dX8_value_162 rfl ?_
              refine r_getf (pc := 163) (k := 2) dX8_value_163 hX8 eX8 (by decide) fX8_18 (fun _ q => ⟨q.1.1, q.1.2.1⟩) rfl ?_
              refine r_iload (pc := 166) dX8_value_166 rfl ?_
              refine r_Vi (pc := 168) (μ' := mX5_at) dX8_value_168 nX8_41 iX5_at vX5_at kX5_at rfl rfl (rr (by decide) rfl) rfl ⟨Nat.zero_le _, Nat.zero_le _⟩ (fun g' q => ct_Row_at q.1.2.2.2 q) ?_
              rw [atL_nI (show r.length ≤ 4000 by omega), hy]
              refine r_if_ne (pc := 171) 178 dX8_value_171 (by decide) (fun c171 => ?_) (fun c171 => ?_)
              · skip
                have e0 : (0 : Int32) = (if y = 0 then 1 else 0) := (if_neg c171).symm
                refine r_iconst (pc := 178) (v := 0) dX8_value_178 (by decide) ?_
                rw [e0]
                refine r_Vv (pc := 179) (μ' := mX5_write) dX8_value_179 nX8_44 iX5_write vX5_write kX5_write rfl rfl (rr (by decide) rfl) rfl ⟨Nat.zero_le _, Nat.zero_le _⟩ (fun g' q => ct_Row_write q.1.2.2.2 (fun g2 h1 h2 => sv _ g' g2 q (by rw [wrL_nI (show r.length ≤ 4000 by omega)] at h1; exact h1) h2)) ?_
                exact r_goto (pc := 182) 226 dX8_value_182 (by decide) go2
              · skip
                have e0 : (1 : Int32) = (if y = 0 then 1 else 0) := (if_pos c171).symm
                refine r_iconst (pc := 174) (v := 1) dX8_value_174 (by decide) ?_
                refine r_goto (pc := 175) 179 dX8_value_175 (by decide) ?_
                rw [e0]
                refine r_Vv (pc := 179) (μ' := mX5_write) dX8_value_179 nX8_44 iX5_write vX5_write kX5_write rfl rfl (rr (by decide) rfl) rfl ⟨Nat.zero_le _, Nat.zero_le _⟩ (fun g' q => ct_Row_write q.1.2.2.2 (fun g2 h1 h2 => sv _ g' g2 q (by rw [wrL_nI (show r.length ≤ 4000 by omega)] at h1; exact h1) h2)) ?_
                exact r_goto (pc := 182) 226 dX8_value_182 (by decide) go2
          · skip
            have k105 : s < 20000 := Int32.not_le.mp c105
            refine r_iinc1 (pc := 108) dX8_value_108 rfl (Nat.le_of_ble_eq_true rfl) rfl ?_
            dsimp only [lset]
            rw [subadd1]
            refine r_aload_n (pc := 111) dX8_value_111 rfl ?_
            refine r_getf (pc := 112) (k := 2) dX8_value_112 hX8 eX8 (by decide) fX8_18 (fun _ q => ⟨q.1.1, q.1.2.1⟩) rfl ?_
            refine r_iload (pc := 115) dX8_value_115 rfl ?_
            refine r_iload (pc := 117) dX8_value_117 rfl ?_
            refine r_sipush (pc := 119) (v := 10000) dX8_value_119 (by decide) ?_
            refine r_icmp_ne (pc := 122) 129 dX8_value_122 (by decide) (fun c122 => ?_) (fun c122 => ?_)
            · skip
              refine r_iload (pc := 129) dX8_value_129 rfl ?_
              refine r_sipush (pc := 131) (v := 10001) dX8_value_131 (by decide) ?_
              refine r_icmp_ne (pc := 134) 141 dX8_value_134 (by decide) (fun c134 => ?_) (fun c134 => ?_)
              · skip
                have hv : stepS a b c s stk = some (c :: stk) := by unfold stepS; rw [if_neg k80, if_pos k105, if_neg c122, if_neg c134]
                refine r_iload_n (pc := 141) dX8_value_141 rfl ?_
                refine r_Vv (pc := 142) (μ' := mX5_write) dX8_value_142 nX8_44 iX5_write vX5_write kX5_write rfl rfl (rr (by decide) rfl) rfl ⟨Nat.zero_le _, Nat.zero_le _⟩ (fun g' q => ct_Row_write q.1.2.2.2 (fun g2 h1 h2 => sv _ g' g2 q (by rw [wrL_nI (show stk.length ≤ 4000 by omega)] at h1; exact h1) h2)) ?_
                exact r_goto (pc := 145) 226 dX8_value_145 (by decide) (push _ hv)
              · skip
                have hv : stepS a b c s stk = some (b :: stk) := by unfold stepS; rw [if_neg k80, if_pos k105, if_neg c122, if_pos c134]
                refine r_iload_n (pc := 137) dX8_value_137 rfl ?_
                refine r_goto (pc := 138) 142 dX8_value_138 (by decide) ?_
                refine r_Vv (pc := 142) (μ' := mX5_write) dX8_value_142 nX8_44 iX5_write vX5_write kX5_write rfl rfl (rr (by decide) rfl) rfl ⟨Nat.zero_le _, Nat.zero_le _⟩ (fun g' q => ct_Row_write q.1.2.2.2 (fun g2 h1 h2 => sv _ g' g2 q (by rw [wrL_nI (show stk.length ≤ 4000 by omega)] at h1; exact h1) h2)) ?_
                exact r_goto (pc := 145) 226 dX8_value_145 (by decide) (push _ hv)
            · skip
              have hv : stepS a b c s stk = some (a :: stk) := by unfold stepS; rw [if_neg k80, if_pos k105, if_pos c122]
              refine r_iload_n (pc := 125) dX8_value_125 rfl ?_
              refine r_goto (pc := 126) 142 dX8_value_126 (by decide) ?_
              refine r_Vv (pc := 142) (μ' := mX5_write) dX8_value_142 nX8_44 iX5_write vX5_write kX5_write rfl rfl (rr (by decide) rfl) rfl ⟨Nat.zero_le _, Nat.zero_le _⟩ (fun g' q => ct_Row_write q.1.2.2.2 (fun g2 h1 h2 => sv _ g' g2 q (by rw [wrL_nI (show stk.length ≤ 4000 by omega)] at h1; exact h1) h2)) ?_
              exact r_goto (pc := 145) 226 dX8_value_145 (by decide) (push _ hv)
        · skip
          have k80 : s < 10000 := Int32.not_le.mp c80
          refine r_iinc1 (pc := 83) dX8_value_83 rfl (Nat.le_of_ble_eq_true rfl) rfl ?_
          dsimp only [lset]
          rw [subadd1]
          refine r_aload_n (pc := 86) dX8_value_86 rfl ?_
          refine r_getf (pc := 87) (k := 2) dX8_value_87 hX8 eX8 (by decide) fX8_18 (fun _ q => ⟨q.1.1, q.1.2.1⟩) rfl ?_
          refine r_iload (pc := 90) dX8_value_90 rfl ?_
          refine r_iload (pc := 92) dX8_value_92 rfl ?_
          refine r_Vv (pc := 94) (μ' := mX5_write) dX8_value_94 nX8_44 iX5_write vX5_write kX5_write rfl rfl (rr (by decide) rfl) rfl ⟨Nat.zero_le _, Nat.zero_le _⟩ (fun g' q => ct_Row_write (P' := fun g2 => (t < g2.1 ∧ g2.2 t = .inr (.inr (7, [.int use, .ref (t + 1), .ref (t + 3)])) ∧ RowAt (t + 1) 50 l g2 ∧ RowAt (t + 3) 50 (S.set stk.length s) g2) ∧ Off t 5 g g2) q.1.2.2.2 (fun g2 h1 h2 => sv _ g' g2 q (by rw [wrL_nI (by omega)] at h1; exact h1) h2)) ?_
          exact r_goto (pc := 97) 226 dX8_value_97 (by decide) (push s (by unfold stepS; rw [if_pos k80]))
  refine aw_P (P' := fun g' => TextAt t use l g' ∧ Off t 5 g g') (fun g' e => by subst e; exact ⟨hR, Off.rf _ _ _⟩) ?_
  unfold lawI
  refine r_aload_n (pc := 0) dX8_value_0 rfl ?_
  refine r_getf (pc := 1) (k := 1) dX8_value_1 hX8 eX8 (by decide) fX8_14 (fun _ q => q.1.o) rfl ?_
  refine r_Vi (pc := 4) (μ' := mX5_length) dX8_value_4 nX8_29 iX5_length vX5_length kX5_length rfl rfl (rr (by decide) rfl) rfl ⟨Nat.zero_le _, Nat.zero_le _⟩ (fun g' q => ct_Row_length q.1.2.2.1 q) ?_
  refine r_if_ne (pc := 7) 31 dX8_value_7 (by decide) (fun c7 => ?_) (fun c7 => ?_)
  · skip
    have k7 : ¬ l.length = 0 := fun q => c7 (by rw [q]; rfl)
    rw [if_neg k7]
    have hrun2 := hrun.resolve_left k7
    rw [hrun2]
    refine aw_P (P' := fun g' => ∃ sk, (t < g'.1 ∧ g'.2 t = .inr (.inr (7, [.int use, .ref (t + 1), .ref (t + 3)])) ∧ RowAt (t + 1) 50 l g' ∧ RowAt (t + 3) 50 sk g') ∧ Off t 5 g g') (fun g' q => by
      obtain ⟨⟨q1, q2, q3, sk, q4⟩, q5⟩ := q
      exact ⟨sk, ⟨q1, q2, q3, q4⟩, q5⟩) (aw_ex fun sk => ?_)
    refine r_aload_n (pc := 31) dX8_value_31 rfl ?_
    refine r_getf (pc := 32) (k := 2) dX8_value_32 hX8 eX8 (by decide) fX8_18 (fun _ q => ⟨q.1.1, q.1.2.1⟩) rfl ?_
    refine r_aload_n (pc := 35) dX8_value_35 rfl ?_
    refine r_getf (pc := 36) (k := 1) dX8_value_36 hX8 eX8 (by decide) fX8_14 (fun _ q => ⟨q.1.1, q.1.2.1⟩) rfl ?_
    refine r_Vi (pc := 39) (μ' := mX5_length) dX8_value_39 nX8_29 iX5_length vX5_length kX5_length rfl rfl (rr (by decide) rfl) rfl ⟨Nat.zero_le _, Nat.zero_le _⟩ (fun g' q => ct_Row_length q.1.2.2.1 q) ?_
    refine r_iconst (pc := 42) (v := 0) dX8_value_42 (by decide) ?_
    refine r_Vv (pc := 43) (μ' := mX5_fill) dX8_value_43 nX8_37 iX5_fill vX5_fill kX5_fill rfl rfl (rr (by decide) rfl) rfl ⟨Nat.zero_le _, Nat.zero_le _⟩ (fun g' q => ct_Row_fill (P' := fun g2 => (t < g2.1 ∧ g2.2 t = .inr (.inr (7, [.int use, .ref (t + 1), .ref (t + 3)])) ∧ RowAt (t + 1) 50 l g2 ∧ RowAt (t + 3) 50 (List.replicate (clampI (nI l.length) 50) 0) g2) ∧ Off t 5 g g2) q.1.2.2.2 (fun g2 h1 h2 => ⟨⟨by rw [h2.1]; exact q.1.1, by rw [h2.2 t (by omega)]; exact q.1.2.1, q.1.2.2.1.off h2 (by omega), h1⟩, q.2.tr (h2.wide (by omega) (by omega))⟩)) ?_
    refine r_iconst (pc := 46) (v := (-1)) dX8_value_46 (by decide) ?_
    refine r_istore (pc := 47) dX8_value_47 (Nat.le_of_ble_eq_true rfl) rfl ?_
    dsimp only [lset]
    refine r_iconst (pc := 49) (v := 0) dX8_value_49 (by decide) ?_
    refine r_istore (pc := 50) dX8_value_50 (Nat.le_of_ble_eq_true rfl) rfl ?_
    dsimp only [lset]
    exact L l 0 [] rfl (Nat.zero_le _) (Nat.le_refl _) hrun2 _ (by rw [List.length_replicate]; unfold clampI; rw [hTn]; omega) (fun j hj => absurd hj (Nat.not_lt_zero j))
  · skip
    have k7 : l.length = 0 := by have := fa_eq.mp c7; rw [t0] at this; omega
    rw [if_pos k7]
    refine r_aload_n (pc := 10) dX8_value_10 rfl ?_
    refine r_getf (pc := 11) (k := 0) dX8_value_11 hX8 eX8 (by decide) fX8_21 (fun _ q => q.1.o) rfl ?_
    refine r_if_ne (pc := 14) 24 dX8_value_14 (by decide) (fun c14 => ?_) (fun c14 => ?_)
    · skip
      rw [if_neg c14]
      refine r_iconst (pc := 24) (v := 1) dX8_value_24 (by decide) ?_
      refine r_iload_n (pc := 25) dX8_value_25 rfl ?_
      refine r_iadd (pc := 26) dX8_value_26 ?_
      refine r_Sp (pc := 27) (μ' := mX8_held) dX8_value_27 nX8_33 sX8_held kX8_held rfl rfl (rr (by decide) rfl) rfl ⟨Nat.zero_le _, Nat.zero_le _⟩ (fun h => ct_Text_held h) ?_
      refine r_ireturn (pc := 30) (ty := .int) dX8_value_30 rfl rfl ⟨Nat.zero_le _, Nat.zero_le _⟩ (fun gE hg => ?_)
      exact ⟨rfl, hP _ hg.1 hg.2⟩
    · skip
      rw [if_pos c14]
      refine r_bipush (pc := 17) (v := 10) dX8_value_17 (by decide) ?_
      refine r_iload_n (pc := 19) dX8_value_19 rfl ?_
      refine r_isub (pc := 20) dX8_value_20 ?_
      refine r_goto (pc := 21) 27 dX8_value_21 (by decide) ?_
      refine r_Sp (pc := 27) (μ' := mX8_held) dX8_value_27 nX8_33 sX8_held kX8_held rfl rfl (rr (by decide) rfl) rfl ⟨Nat.zero_le _, Nat.zero_le _⟩ (fun h => ct_Text_held h) ?_
      refine r_ireturn (pc := 30) (ty := .int) dX8_value_30 rfl rfl ⟨Nat.zero_le _, Nat.zero_le _⟩ (fun gE hg => ?_)
      exact ⟨rfl, hP _ hg.1 hg.2⟩
