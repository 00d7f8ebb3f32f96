/-! VOICES (OneGoCeiling$Voices) -/
def bodyI (kd act : Int32) : Int32 := if 0 ≤ (kd * 4 + act).toInt ∧ (kd * 4 + act).toInt < 28 then lBO.getD (kd * 4 + act).toInt.toNat 0 else 0
def ownerI : Nat → Int32 → Int32 → Int32
  | 0, o, _ => o
  | n + 1, o, act => if bodyI o act = 0 then ownerI n (aboveI o) act else o
def sayG (rc : Int32 → Int32 → Int32 → List Int32 → Int32 × List Int32) (num kd m body ab x : Int32) (hd : List Int32) : Int32 × List Int32 :=
  if body = 10 then (x + num, hd) else if body = 11 then ((rc kd 0 x hd).1 * 2, (rc kd 0 x hd).2) else if body = 12 then (x - m, hd) else if body = 13 then ((rc kd 1 x hd).1 ^^^ (rc kd 2 x (rc kd 1 x hd).2).1, (rc kd 2 x (rc kd 1 x hd).2).2) else if body = 20 then (-(rc ab 2 x hd).1, (rc ab 2 x hd).2) else if body = 30 then ((rc ab 1 x hd).1 - (rc kd 2 1 (rc ab 1 x hd).2).1, (rc kd 2 1 (rc ab 1 x hd).2).2) else if body = 40 then ((rc ab 0 x hd).1 * 3, (rc ab 0 x hd).2) else if body = 50 then ((rc ab 2 x hd).1 ^^^ num, (rc ab 2 x hd).2) else if body = 51 then ((rc kd 1 x hd).1 - (rc ab 3 x (rc kd 1 x hd).2).1, (rc ab 3 x (rc kd 1 x hd).2).2) else if body = 60 then rc ab 1 (x + 1) hd else if body = 70 then ((rc ab 3 x hd).1 - (rc kd 0 2 (rc ab 3 x hd).2).1, (rc kd 0 2 (rc ab 3 x hd).2).2) else (0, hd)
def voiV (num kd m : Int32) : Nat → Int32 → Int32 → Int32 → List Int32 → Int32 × List Int32
  | 0, _, _, _, hd => (0, hd)
  | n + 1, s, act, x, hd => sayG (voiV num kd m n) num kd m (bodyI (ownerI 7 s act) act) (aboveI (ownerI 7 s act)) x (addL 40 hd (bodyI (ownerI 7 s act) act))
theorem sayG_10 {rc : Int32 → Int32 → Int32 → List Int32 → Int32 × List Int32} {num kd m ab x : Int32} {hd : List Int32} : sayG rc num kd m 10 ab x hd = (x + num, hd) := rfl
theorem sayG_11 {rc : Int32 → Int32 → Int32 → List Int32 → Int32 × List Int32} {num kd m ab x : Int32} {hd : List Int32} : sayG rc num kd m 11 ab x hd = ((rc kd 0 x hd).1 * 2, (rc kd 0 x hd).2) := rfl
theorem sayG_12 {rc : Int32 → Int32 → Int32 → List Int32 → Int32 × List Int32} {num kd m ab x : Int32} {hd : List Int32} : sayG rc num kd m 12 ab x hd = (x - m, hd) := rfl
theorem sayG_13 {rc : Int32 → Int32 → Int32 → List Int32 → Int32 × List Int32} {num kd m ab x : Int32} {hd : List Int32} : sayG rc num kd m 13 ab x hd = ((rc kd 1 x hd).1 ^^^ (rc kd 2 x (rc kd 1 x hd).2).1, (rc kd 2 x (rc kd 1 x hd).2).2) := rfl
theorem sayG_20 {rc : Int32 → Int32 → Int32 → List Int32 → Int32 × List Int32} {num kd m ab x : Int32} {hd : List Int32} : sayG rc num kd m 20 ab x hd = (-(rc ab 2 x hd).1, (rc ab 2 x hd).2) := rfl
theorem sayG_30 {rc : Int32 → Int32 → Int32 → List Int32 → Int32 × List Int32} {num kd m ab x : Int32} {hd : List Int32} : sayG rc num kd m 30 ab x hd = ((rc ab 1 x hd).1 - (rc kd 2 1 (rc ab 1 x hd).2).1, (rc kd 2 1 (rc ab 1 x hd).2).2) := rfl
theorem sayG_40 {rc : Int32 → Int32 → Int32 → List Int32 → Int32 × List Int32} {num kd m ab x : Int32} {hd : List Int32} : sayG rc num kd m 40 ab x hd = ((rc ab 0 x hd).1 * 3, (rc ab 0 x hd).2) := rfl
theorem sayG_50 {rc : Int32 → Int32 → Int32 → List Int32 → Int32 × List Int32} {num kd m ab x : Int32} {hd : List Int32} : sayG rc num kd m 50 ab x hd = ((rc ab 2 x hd).1 ^^^ num, (rc ab 2 x hd).2) := rfl
theorem sayG_51 {rc : Int32 → Int32 → Int32 → List Int32 → Int32 × List Int32} {num kd m ab x : Int32} {hd : List Int32} : sayG rc num kd m 51 ab x hd = ((rc kd 1 x hd).1 - (rc ab 3 x (rc kd 1 x hd).2).1, (rc ab 3 x (rc kd 1 x hd).2).2) := rfl
theorem sayG_60 {rc : Int32 → Int32 → Int32 → List Int32 → Int32 × List Int32} {num kd m ab x : Int32} {hd : List Int32} : sayG rc num kd m 60 ab x hd = rc ab 1 (x + 1) hd := rfl
theorem sayG_70 {rc : Int32 → Int32 → Int32 → List Int32 → Int32 × List Int32} {num kd m ab x : Int32} {hd : List Int32} : sayG rc num kd m 70 ab x hd = ((rc ab 3 x hd).1 - (rc kd 0 2 (rc ab 3 x hd).2).1, (rc kd 0 2 (rc ab 3 x hd).2).2) := rfl
def VoAt (ν : Nat) (num kd m : Int32) (hd : List Int32) (g : AH) : Prop := ν < g.1 ∧ g.2 ν = .inr (.inr (9, [.ref (ν + 1), .int num, .int kd, .int m])) ∧ RowAt (ν + 1) 40 hd g
section Vo
variable {ν : Nat} {num kd m : Int32} {hd : List Int32} {g h : AH} {P' : AH → Prop}
theorem VoAt.o (q : VoAt ν num kd m hd g) : ν < g.1 ∧ g.2 ν = .inr (.inr (9, [.ref (ν + 1), .int num, .int kd, .int m])) := ⟨q.1, q.2.1⟩
theorem VoAt.V (q : VoAt ν num kd m hd g) : ∃ (fs : List Value) (T : u_T) (N : Nat), ν < g.1 ∧ g.2 ν = .inr (.inr (9, fs)) ∧ vwCl[9]? = some (RX10, T, N) := ⟨_, _, _, q.1, q.2.1, rfl⟩
theorem VoAt.off (q : VoAt ν num kd m hd h) {lo w : Nat} (o : Off lo w h g) (hd2 : ν + 3 ≤ lo ∨ lo + w ≤ ν) : VoAt ν num kd m hd g :=
  ⟨by rw [o.1]; exact q.1, by rw [o.2 ν (by omega)]; exact q.2.1, q.2.2.off o (by omega)⟩
theorem VoAt.setL {l : List Int32} (q : VoAt ν num kd m hd h) (hR : RowAt (ν + 1) 40 l g) (o : Off (ν + 1) 2 h g) : VoAt ν num kd m l g :=
  ⟨by rw [o.1]; exact q.1, by rw [o.2 ν (by omega)]; exact q.2.1, hR⟩
theorem VoAt.put {num' kd' m' : Int32} (q : VoAt ν num kd m hd g) : VoAt ν num' kd' m' hd (hset g ν (.inr (.inr (9, [.ref (ν + 1), .int num', .int kd', .int m'])))) :=
  ⟨q.1, hset_same _ _ _, q.2.2.off Off.one (by omega)⟩
set_option maxHeartbeats 4000000 in
theorem ct_Vo_bodyOf {k act : Int32} (g : AH) : CT 1 0 0 mX10_bodyOf [.int k, .int act] g (fun v g' => v = some (.int (bodyI k act)) ∧ g' = g) := by
  refine ct_of (by decide) (fun _ _ => Nat.le_of_ble_eq_true rfl) ?_
  dsimp only [pad, ent]
  unfold bodyI
  refine r_iload_n (pc := 0) dX10_bodyOf_0 rfl ?_
  refine r_iconst (pc := 1) (v := 4) dX10_bodyOf_1 (by decide) ?_
  refine r_imul (pc := 2) dX10_bodyOf_2 ?_
  refine r_iload_n (pc := 3) dX10_bodyOf_3 rfl ?_
  refine r_iadd (pc := 4) dX10_bodyOf_4 ?_
  refine r_istore_n (pc := 5) dX10_bodyOf_5 rfl (Nat.le_of_ble_eq_true rfl) rfl ?_
  dsimp only [lset]
  refine r_iload_n (pc := 6) dX10_bodyOf_6 rfl ?_
  refine r_if_lt (pc := 7) 26 dX10_bodyOf_7 (by decide) (fun c7 => ?_) (fun c7 => ?_)
  · skip
    have k1 := i32_lt0.mp c7
    refine r_iconst (pc := 26) (v := 0) dX10_bodyOf_26 (by decide) ?_
    refine r_ireturn (pc := 27) (ty := .int) dX10_bodyOf_27 rfl rfl ⟨Nat.zero_le _, Nat.zero_le _⟩ (fun gE hg => ?_)
    refine ⟨?_, hg⟩
    first
    | (rw [if_pos (by omega)]; done)
    | (rw [if_neg (by omega)]; done)
  · skip
    have k1 := ge0 c7
    refine r_iload_n (pc := 10) dX10_bodyOf_10 rfl ?_
    refine r_stB_len (pc := 11) dX10_bodyOf_11 dX10_bodyOf_14 fX10_64 ?_
    refine r_icmp_ge (pc := 15) 26 dX10_bodyOf_15 (by decide) (fun c15 => ?_) (fun c15 => ?_)
    · skip
      have k9 : (28 : Int) ≤ (k * 4 + act).toInt := fa_le.mp c15
      refine r_iconst (pc := 26) (v := 0) dX10_bodyOf_26 (by decide) ?_
      refine r_ireturn (pc := 27) (ty := .int) dX10_bodyOf_27 rfl rfl ⟨Nat.zero_le _, Nat.zero_le _⟩ (fun gE hg => ?_)
      refine ⟨?_, hg⟩
      first
      | (rw [if_pos (by omega)]; done)
      | (rw [if_neg (by omega)]; done)
    · skip
      have k9 : ¬ (28 : Int) ≤ (k * 4 + act).toInt := fun q => c15 (fa_le.mpr q)
      refine r_stB_ld (pc := 18) (j := (k * 4 + act).toInt.toNat) dX10_bodyOf_18 dX10_bodyOf_21 dX10_bodyOf_22 fX10_64 rfl (ix_hi c7) (by omega) ?_
      refine r_goto (pc := 23) 27 dX10_bodyOf_23 (by decide) ?_
      refine r_ireturn (pc := 27) (ty := .int) dX10_bodyOf_27 rfl rfl ⟨Nat.zero_le _, Nat.zero_le _⟩ (fun gE hg => ?_)
      refine ⟨?_, hg⟩
      first
      | (rw [if_pos (by omega)]; done)
      | (rw [if_neg (by omega)]; done)
/-- from(start, act, x, depth), with n levels left -/
def FrC (num kd m : Int32) (n : Nat) : Prop := ∀ (ν : Nat) (s act x : Int32) (hd : List Int32) (g : AH) (P' : AH → Prop), VoAt ν num kd m hd g → (∀ g', VoAt ν num kd m (voiV num kd m n s act x hd).2 g' → Off ν 3 g g' → P' g') → CV (5 + 3 * n) 0 0 mX10_from ν [.int s, .int act, .int x, .int (nI (41 - n))] g (fun v g' => v = some (.int (voiV num kd m n s act x hd).1) ∧ P' g')
set_option maxHeartbeats 4000000 in
theorem ct_Vo_own {n : Nat} (hF : FrC num kd m n) {act x : Int32} (hR : VoAt ν num kd m hd g) (hP : ∀ g', VoAt ν num kd m (voiV num kd m n kd act x hd).2 g' → Off ν 3 g g' → P' g') : CV (6 + 3 * n) 0 0 mX10_own ν [.int act, .int x, .int (nI (41 - n))] g (fun v g' => v = some (.int (voiV num kd m n kd act x hd).1) ∧ P' g') := by
  refine ⟨hR.V, ?_⟩
  refine ct_of (by decide) (fun _ _ => Nat.le_of_ble_eq_true rfl) ?_
  dsimp only [pad, ent]
  refine aw_P (P' := fun g' => VoAt ν num kd m hd g' ∧ Off ν 3 g g') (fun g' e => by subst e; exact ⟨hR, Off.rf _ _ _⟩) ?_
  refine r_aload_n (pc := 0) dX10_own_0 rfl ?_
  refine r_aload_n (pc := 1) dX10_own_1 rfl ?_
  refine r_getf (pc := 2) (k := 2) dX10_own_2 hX10 eX10 (by decide) fX10_22 (fun _ q => q.1.o) rfl ?_
  refine r_iload_n (pc := 5) dX10_own_5 rfl ?_
  refine r_iload_n (pc := 6) dX10_own_6 rfl ?_
  refine r_iload_n (pc := 7) dX10_own_7 rfl ?_
  refine r_Vi (pc := 8) (μ' := mX10_from) dX10_own_8 nX10_44 iX10_from vX10_from kX10_from rfl rfl (rr (by omega) rfl) rfl ⟨Nat.zero_le _, Nat.zero_le _⟩ (fun g' q => hF ν kd act x hd g' P' q.1 (fun g2 a b => hP g2 a (q.2.tr b))) ?_
  refine r_ireturn (pc := 11) (ty := .int) dX10_own_11 rfl rfl ⟨Nat.zero_le _, Nat.zero_le _⟩ (fun gE hg => ?_)
  exact ⟨rfl, hg⟩
set_option maxHeartbeats 8000000 in
theorem ct_Vo_say {n : Nat} (hF : FrC num kd m n) {body ab x : Int32} (hR : VoAt ν num kd m hd g) (hP : ∀ g', VoAt ν num kd m (sayG (voiV num kd m n) num kd m body ab x hd).2 g' → Off ν 3 g g' → P' g') : CV (7 + 3 * n) 0 0 mX10_say ν [.int body, .int ab, .int x, .int (nI (41 - n))] g (fun v g' => v = some (.int (sayG (voiV num kd m n) num kd m body ab x hd).1) ∧ P' g') := by
  refine ⟨hR.V, ?_⟩
  refine ct_of (by decide) (fun _ _ => Nat.le_of_ble_eq_true rfl) ?_
  dsimp only [pad, ent]
  have ow : ∀ (act x : Int32) (hd' : List Int32) (g' : AH), VoAt ν num kd m hd' g' ∧ Off ν 3 g g' → CV (6 + 3 * n) 0 0 mX10_own ν [.int act, .int x, .int (nI (41 - n))] g' (fun v g2 => v = some (.int (voiV num kd m n kd act x hd').1) ∧ (VoAt ν num kd m (voiV num kd m n kd act x hd').2 g2 ∧ Off ν 3 g g2)) :=
    fun act x hd' g' q => ct_Vo_own hF q.1 (fun g2 a b => ⟨a, q.2.tr b⟩)
  have fr : ∀ (s act x : Int32) (hd' : List Int32) (g' : AH), VoAt ν num kd m hd' g' ∧ Off ν 3 g g' → CV (5 + 3 * n) 0 0 mX10_from ν [.int s, .int act, .int x, .int (nI (41 - n))] g' (fun v g2 => v = some (.int (voiV num kd m n s act x hd').1) ∧ (VoAt ν num kd m (voiV num kd m n s act x hd').2 g2 ∧ Off ν 3 g g2)) :=
    fun s act x hd' g' q => hF ν s act x hd' g' _ q.1 (fun g2 a b => ⟨a, q.2.tr b⟩)
  refine aw_P (P' := fun g' => VoAt ν num kd m hd g' ∧ Off ν 3 g g') (fun g' e => by subst e; exact ⟨hR, Off.rf _ _ _⟩) ?_
  refine r_iload_n (pc := 0) dX10_say_0 rfl ?_
  by_cases s1_0 : body = 10
  · skip
    refine r_lookup (pc := 1) (off := 99) 100 dX10_say_1 (by decide) (by rw [s1_0]; decide) (by decide) ?_
    subst s1_0
    rw [sayG_10] at hP ⊢
    refine r_iload_n (pc := 100) dX10_say_100 rfl ?_
    refine r_aload_n (pc := 101) dX10_say_101 rfl ?_
    refine r_getf (pc := 102) (k := 1) dX10_say_102 hX10 eX10 (by decide) fX10_18 (fun _ q => q.1.o) rfl ?_
    refine r_iadd (pc := 105) dX10_say_105 ?_
    refine r_ireturn (pc := 106) (ty := .int) dX10_say_106 rfl rfl ⟨Nat.zero_le _, Nat.zero_le _⟩ (fun gE hg => ?_)
    exact ⟨rfl, hP _ hg.1 hg.2⟩
  by_cases s1_1 : body = 11
  · skip
    refine r_lookup (pc := 1) (off := 106) 107 dX10_say_1 (by decide) (by rw [s1_1]; decide) (by decide) ?_
    subst s1_1
    rw [sayG_11] at hP ⊢
    refine r_aload_n (pc := 107) dX10_say_107 rfl ?_
    refine r_iconst (pc := 108) (v := 0) dX10_say_108 (by decide) ?_
    refine r_iload_n (pc := 109) dX10_say_109 rfl ?_
    refine r_iload (pc := 110) dX10_say_110 rfl ?_
    refine r_Vi (pc := 112) (μ' := mX10_own) dX10_say_112 nX10_40 iX10_own vX10_own kX10_own rfl rfl (rr (by omega) rfl) rfl ⟨Nat.zero_le _, Nat.zero_le _⟩ (fun g' q => ow _ _ _ g' q) ?_
    refine r_iconst (pc := 115) (v := 2) dX10_say_115 (by decide) ?_
    refine r_imul (pc := 116) dX10_say_116 ?_
    refine r_ireturn (pc := 117) (ty := .int) dX10_say_117 rfl rfl ⟨Nat.zero_le _, Nat.zero_le _⟩ (fun gE hg => ?_)
    exact ⟨rfl, hP _ hg.1 hg.2⟩
  by_cases s1_2 : body = 12
  · skip
    refine r_lookup (pc := 1) (off := 117) 118 dX10_say_1 (by decide) (by rw [s1_2]; decide) (by decide) ?_
    subst s1_2
    rw [sayG_12] at hP ⊢
    refine r_iload_n (pc := 118) dX10_say_118 rfl ?_
    refine r_aload_n (pc := 119) dX10_say_119 rfl ?_
    refine r_getf (pc := 120) (k := 3) dX10_say_120 hX10 eX10 (by decide) fX10_25 (fun _ q => q.1.o) rfl ?_
    refine r_isub (pc := 123) dX10_say_123 ?_
    refine r_ireturn (pc := 124) (ty := .int) dX10_say_124 rfl rfl ⟨Nat.zero_le _, Nat.zero_le _⟩ (fun gE hg => ?_)
    exact ⟨rfl, hP _ hg.1 hg.2⟩
  by_cases s1_3 : body = 13
  · skip
    refine r_lookup (pc := 1) (off := 124) 125 dX10_say_1 (by decide) (by rw [s1_3]; decide) (by decide) ?_
    subst s1_3
    rw [sayG_13] at hP ⊢
    refine r_aload_n (pc := 125) dX10_say_125 rfl ?_
    refine r_iconst (pc := 126) (v := 1) dX10_say_126 (by decide) ?_
    refine r_iload_n (pc := 127) dX10_say_127 rfl ?_
    refine r_iload (pc := 128) dX10_say_128 rfl ?_
    refine r_Vi (pc := 130) (μ' := mX10_own) dX10_say_130 nX10_40 iX10_own vX10_own kX10_own rfl rfl (rr (by omega) rfl) rfl ⟨Nat.zero_le _, Nat.zero_le _⟩ (fun g' q => ow _ _ _ g' q) ?_
    refine r_aload_n (pc := 133) dX10_say_133 rfl ?_
    refine r_iconst (pc := 134) (v := 2) dX10_say_134 (by decide) ?_
    refine r_iload_n (pc := 135) dX10_say_135 rfl ?_
    refine r_iload (pc := 136) dX10_say_136 rfl ?_
    refine r_Vi (pc := 138) (μ' := mX10_own) dX10_say_138 nX10_40 iX10_own vX10_own kX10_own rfl rfl (rr (by omega) rfl) rfl ⟨Nat.zero_le _, Nat.zero_le _⟩ (fun g' q => ow _ _ _ g' q) ?_
    refine r_ixor (pc := 141) dX10_say_141 ?_
    refine r_ireturn (pc := 142) (ty := .int) dX10_say_142 rfl rfl ⟨Nat.zero_le _, Nat.zero_le _⟩ (fun gE hg => ?_)
    exact ⟨rfl, hP _ hg.1 hg.2⟩
  by_cases s1_4 : body = 20
  · skip
    refine r_lookup (pc := 1) (off := 142) 143 dX10_say_1 (by decide) (by rw [s1_4]; decide) (by decide) ?_
    subst s1_4
    rw [sayG_20] at hP ⊢
    refine r_aload_n (pc := 143) dX10_say_143 rfl ?_
    refine r_iload_n (pc := 144) dX10_say_144 rfl ?_
    refine r_iconst (pc := 145) (v := 2) dX10_say_145 (by decide) ?_
    refine r_iload_n (pc := 146) dX10_say_146 rfl ?_
    refine r_iload (pc := 147) dX10_say_147 rfl ?_
    refine r_Vi (pc := 149) (μ' := mX10_from) dX10_say_149 nX10_44 iX10_from vX10_from kX10_from rfl rfl (rr (by omega) rfl) rfl ⟨Nat.zero_le _, Nat.zero_le _⟩ (fun g' q => fr _ _ _ _ g' q) ?_
    refine r_ineg (pc := 152) dX10_say_152 ?_
    refine r_ireturn (pc := 153) (ty := .int) dX10_say_153 rfl rfl ⟨Nat.zero_le _, Nat.zero_le _⟩ (fun gE hg => ?_)
    exact ⟨rfl, hP _ hg.1 hg.2⟩
  by_cases s1_5 : body = 30
  · skip
    refine r_lookup (pc := 1) (off := 153) 154 dX10_say_1 (by decide) (by rw [s1_5]; decide) (by decide) ?_
    subst s1_5
    rw [sayG_30] at hP ⊢
    refine r_aload_n (pc := 154) dX10_say_154 rfl ?_
    refine r_iload_n (pc := 155) dX10_say_155 rfl ?_
    refine r_iconst (pc := 156) (v := 1) dX10_say_156 (by decide) ?_
    refine r_iload_n (pc := 157) dX10_say_157 rfl ?_
    refine r_iload (pc := 158) dX10_say_158 rfl ?_
    refine r_Vi (pc := 160) (μ' := mX10_from) dX10_say_160 nX10_44 iX10_from vX10_from kX10_from rfl rfl (rr (by omega) rfl) rfl ⟨Nat.zero_le _, Nat.zero_le _⟩ (fun g' q => fr _ _ _ _ g' q) ?_
    refine r_aload_n (pc := 163) dX10_say_163 rfl ?_
    refine r_iconst (pc := 164) (v := 2) dX10_say_164 (by decide) ?_
    refine r_iconst (pc := 165) (v := 1) dX10_say_165 (by decide) ?_
    refine r_iload (pc := 166) dX10_say_166 rfl ?_
    refine r_Vi (pc := 168) (μ' := mX10_own) dX10_say_168 nX10_40 iX10_own vX10_own kX10_own rfl rfl (rr (by omega) rfl) rfl ⟨Nat.zero_le _, Nat.zero_le _⟩ (fun g' q => ow _ _ _ g' q) ?_
    refine r_isub (pc := 171) dX10_say_171 ?_
    refine r_ireturn (pc := 172) (ty := .int) dX10_say_172 rfl rfl ⟨Nat.zero_le _, Nat.zero_le _⟩ (fun gE hg => ?_)
    exact ⟨rfl, hP _ hg.1 hg.2⟩
  by_cases s1_6 : body = 40
  · skip
    refine r_lookup (pc := 1) (off := 172) 173 dX10_say_1 (by decide) (by rw [s1_6]; decide) (by decide) ?_
    subst s1_6
    rw [sayG_40] at hP ⊢
    refine r_aload_n (pc := 173) dX10_say_173 rfl ?_
    refine r_iload_n (pc := 174) dX10_say_174 rfl ?_
    refine r_iconst (pc := 175) (v := 0) dX10_say_175 (by decide) ?_
    refine r_iload_n (pc := 176) dX10_say_176 rfl ?_
    refine r_iload (pc := 177) dX10_say_177 rfl ?_
    refine r_Vi (pc := 179) (μ' := mX10_from) dX10_say_179 nX10_44 iX10_from vX10_from kX10_from rfl rfl (rr (by omega) rfl) rfl ⟨Nat.zero_le _, Nat.zero_le _⟩ (fun g' q => fr _ _ _ _ g' q) ?_
    refine r_iconst (pc := 182) (v := 3) dX10_say_182 (by decide) ?_
    refine r_imul (pc := 183) dX10_say_183 ?_
    refine r_ireturn (pc := 184) (ty := .int) dX10_say_184 rfl rfl ⟨Nat.zero_le _, Nat.zero_le _⟩ (fun gE hg => ?_)
    exact ⟨rfl, hP _ hg.1 hg.2⟩
  by_cases s1_7 : body = 50
  · skip
    refine r_lookup (pc := 1) (off := 184) 185 dX10_say_1 (by decide) (by rw [s1_7]; decide) (by decide) ?_
    subst s1_7
    rw [sayG_50] at hP ⊢
    refine r_aload_n (pc := 185) dX10_say_185 rfl ?_
    refine r_iload_n (pc := 186) dX10_say_186 rfl ?_
    refine r_iconst (pc := 187) (v := 2) dX10_say_187 (by decide) ?_
    refine r_iload_n (pc := 188) dX10_say_188 rfl ?_
    refine r_iload (pc := 189) dX10_say_189 rfl ?_
    refine r_Vi (pc := 191) (μ' := mX10_from) dX10_say_191 nX10_44 iX10_from vX10_from kX10_from rfl rfl (rr (by omega) rfl) rfl ⟨Nat.zero_le _, Nat.zero_le _⟩ (fun g' q => fr _ _ _ _ g' q) ?_
    refine r_aload_n (pc := 194) dX10_say_194 rfl ?_
    refine r_getf (pc := 195) (k := 1) dX10_say_195 hX10 eX10 (by decide) fX10_18 (fun _ q => q.1.o) rfl ?_
    refine r_ixor (pc := 198) dX10_say_198 ?_
    refine r_ireturn (pc := 199) (ty := .int) dX10_say_199 rfl rfl ⟨Nat.zero_le _, Nat.zero_le _⟩ (fun gE hg => ?_)
    exact ⟨rfl, hP _ hg.1 hg.2⟩
  by_cases s1_8 : body = 51
  · skip
    refine r_lookup (pc := 1) (off := 199) 200 dX10_say_1 (by decide) (by rw [s1_8]; decide) (by decide) ?_
    subst s1_8
    rw [sayG_51] at hP ⊢
    refine r_aload_n (pc := 200) dX10_say_200 rfl ?_
    refine r_iconst (pc := 201) (v := 1) dX10_say_201 (by decide) ?_
    refine r_iload_n (pc := 202) dX10_say_202 rfl ?_
    refine r_iload (pc := 203) dX10_say_203 rfl ?_
    refine r_Vi (pc := 205) (μ' := mX10_own) dX10_say_205 nX10_40 iX10_own vX10_own kX10_own rfl rfl (rr (by omega) rfl) rfl ⟨Nat.zero_le _, Nat.zero_le _⟩ (fun g' q => ow _ _ _ g' q) ?_
    refine r_aload_n (pc := 208) dX10_say_208 rfl ?_
    refine r_iload_n (pc := 209) dX10_say_209 rfl ?_
    refine r_iconst (pc := 210) (v := 3) dX10_say_210 (by decide) ?_
    refine r_iload_n (pc := 211) dX10_say_211 rfl ?_
    refine r_iload (pc := 212) dX10_say_212 rfl ?_
    refine r_Vi (pc := 214) (μ' := mX10_from) dX10_say_214 nX10_44 iX10_from vX10_from kX10_from rfl rfl (rr (by omega) rfl) rfl ⟨Nat.zero_le _, Nat.zero_le _⟩ (fun g' q => fr _ _ _ _ g' q) ?_
    refine r_isub (pc := 217) dX10_say_217 ?_
    refine r_ireturn (pc := 218) (ty := .int) dX10_say_218 rfl rfl ⟨Nat.zero_le _, Nat.zero_le _⟩ (fun gE hg => ?_)
    exact ⟨rfl, hP _ hg.1 hg.2⟩
  by_cases s1_9 : body = 60
  · skip
    refine r_lookup (pc := 1) (off := 218) 219 dX10_say_1 (by decide) (by rw [s1_9]; decide) (by decide) ?_
    subst s1_9
    rw [sayG_60] at hP ⊢
    refine r_aload_n (pc := 219) dX10_say_219 rfl ?_
    refine r_iload_n (pc := 220) dX10_say_220 rfl ?_
    refine r_iconst (pc := 221) (v := 1) dX10_say_221 (by decide) ?_
    refine r_iload_n (pc := 222) dX10_say_222 rfl ?_
    refine r_iconst (pc := 223) (v := 1) dX10_say_223 (by decide) ?_
    refine r_iadd (pc := 224) dX10_say_224 ?_
    refine r_iload (pc := 225) dX10_say_225 rfl ?_
    refine r_Vi (pc := 227) (μ' := mX10_from) dX10_say_227 nX10_44 iX10_from vX10_from kX10_from rfl rfl (rr (by omega) rfl) rfl ⟨Nat.zero_le _, Nat.zero_le _⟩ (fun g' q => fr _ _ _ _ g' q) ?_
    refine r_ireturn (pc := 230) (ty := .int) dX10_say_230 rfl rfl ⟨Nat.zero_le _, Nat.zero_le _⟩ (fun gE hg => ?_)
    exact ⟨rfl, hP _ hg.1 hg.2⟩
  by_cases s1_10 : body = 70
  · skip
    refine r_lookup (pc := 1) (off := 230) 231 dX10_say_1 (by decide) (by rw [s1_10]; decide) (by decide) ?_
    subst s1_10
    rw [sayG_70] at hP ⊢
    refine r_aload_n (pc := 231) dX10_say_231 rfl ?_
    refine r_iload_n (pc := 232) dX10_say_232 rfl ?_
    refine r_iconst (pc := 233) (v := 3) dX10_say_233 (by decide) ?_
    refine r_iload_n (pc := 234) dX10_say_234 rfl ?_
    refine r_iload (pc := 235) dX10_say_235 rfl ?_
    refine r_Vi (pc := 237) (μ' := mX10_from) dX10_say_237 nX10_44 iX10_from vX10_from kX10_from rfl rfl (rr (by omega) rfl) rfl ⟨Nat.zero_le _, Nat.zero_le _⟩ (fun g' q => fr _ _ _ _ g' q) ?_
    refine r_aload_n (pc := 240) dX10_say_240 rfl ?_
    refine r_iconst (pc := 241) (v := 0) dX10_say_241 (by decide) ?_
    refine r_iconst (pc := 242) (v := 2) dX10_say_242 (by decide) ?_
    refine r_iload (pc := 243) dX10_say_243 rfl ?_
    refine r_Vi (pc := 245) (μ' := mX10_own) dX10_say_245 nX10_40 iX10_own vX10_own kX10_own rfl rfl (rr (by omega) rfl) rfl ⟨Nat.zero_le _, Nat.zero_le _⟩ (fun g' q => ow _ _ _ g' q) ?_
    refine r_isub (pc := 248) dX10_say_248 ?_
    refine r_ireturn (pc := 249) (ty := .int) dX10_say_249 rfl rfl ⟨Nat.zero_le _, Nat.zero_le _⟩ (fun gE hg => ?_)
    exact ⟨rfl, hP _ hg.1 hg.2⟩
  have t1_0 : ¬ (body).toInt = 10 := fun q => s1_0 (Int32.toInt_inj.mp q)
  have t1_1 : ¬ (body).toInt = 11 := fun q => s1_1 (Int32.toInt_inj.mp q)
  have t1_2 : ¬ (body).toInt = 12 := fun q => s1_2 (Int32.toInt_inj.mp q)
  have t1_3 : ¬ (body).toInt = 13 := fun q => s1_3 (Int32.toInt_inj.mp q)
  have t1_4 : ¬ (body).toInt = 20 := fun q => s1_4 (Int32.toInt_inj.mp q)
  have t1_5 : ¬ (body).toInt = 30 := fun q => s1_5 (Int32.toInt_inj.mp q)
  have t1_6 : ¬ (body).toInt = 40 := fun q => s1_6 (Int32.toInt_inj.mp q)
  have t1_7 : ¬ (body).toInt = 50 := fun q => s1_7 (Int32.toInt_inj.mp q)
  have t1_8 : ¬ (body).toInt = 51 := fun q => s1_8 (Int32.toInt_inj.mp q)
  have t1_9 : ¬ (body).toInt = 60 := fun q => s1_9 (Int32.toInt_inj.mp q)
  have t1_10 : ¬ (body).toInt = 70 := fun q => s1_10 (Int32.toInt_inj.mp q)
  refine r_lookup (pc := 1) (off := 249) 250 dX10_say_1 (by decide) (by simp [Op.lookupswitch.offset, t1_0, t1_1, t1_2, t1_3, t1_4, t1_5, t1_6, t1_7, t1_8, t1_9, t1_10] <;> omega) (by decide) ?_
  unfold sayG at hP ⊢
  rw [if_neg s1_0, if_neg s1_1, if_neg s1_2, if_neg s1_3, if_neg s1_4, if_neg s1_5, if_neg s1_6, if_neg s1_7, if_neg s1_8, if_neg s1_9, if_neg s1_10] at hP ⊢
  refine r_iconst (pc := 250) (v := 0) dX10_say_250 (by decide) ?_
  refine r_ireturn (pc := 251) (ty := .int) dX10_say_251 rfl rfl ⟨Nat.zero_le _, Nat.zero_le _⟩ (fun gE hg => ?_)
  exact ⟨rfl, hP _ hg.1 hg.2⟩
set_option maxHeartbeats 8000000 in
theorem ct_Vo_from : ∀ n, n ≤ 41 → FrC num kd m n := by
  intro n
  induction n with
  | zero =>
    intro hn ν s act x hd g P' hR hP
    refine ⟨hR.V, ?_⟩
    refine ct_of (by decide) (fun _ _ => Nat.le_of_ble_eq_true rfl) ?_
    dsimp only [pad, ent]
    refine aw_P (P' := fun g' => VoAt ν num kd m hd g' ∧ Off ν 3 g g') (fun g' e => by subst e; exact ⟨hR, Off.rf _ _ _⟩) ?_
    refine r_iload (pc := 0) dX10_from_0 rfl ?_
    refine r_bipush (pc := 2) (v := 40) dX10_from_2 (by decide) ?_
    refine r_icmp_le (pc := 4) 9 dX10_from_4 (by decide) (fun c4 => ?_) (fun c4 => ?_)
    · skip
      exact absurd c4 (by decide)
    · skip
      refine r_iconst (pc := 7) (v := 0) dX10_from_7 (by decide) ?_
      refine r_ireturn (pc := 8) (ty := .int) dX10_from_8 rfl rfl ⟨Nat.zero_le _, Nat.zero_le _⟩ (fun gE hg => ?_)
      exact ⟨rfl, hP _ hg.1 hg.2⟩
  | succ n ih =>
    intro hn ν s act x hd g P' hR hP
    have hT : (nI (41 - (n + 1))).toInt = ((41 - (n + 1) : Nat) : Int) := nI_T (by omega)
    refine ⟨hR.V, ?_⟩
    refine ct_of (by decide) (fun _ _ => Nat.le_of_ble_eq_true rfl) ?_
    dsimp only [pad, ent]
    rw [voiV] at hP ⊢
    have L : ∀ (k : Nat) (o : Int32), k ≤ 7 → ownerI k o act = ownerI 7 s act → AW (fun _ => True) (rmd (5 + 3 * (n + 1)) 0 0) mX10_from 0 0 15 [some (.ref ν), some (.int s), some (.int act), some (.int x), some (.int (nI (41 - (n + 1)))), some (.int o), some (.int (nI (7 - k)))] [] (fun g' => VoAt ν num kd m hd g' ∧ Off ν 3 g g') (fun v g' => v = some (.int (sayG (voiV num kd m n) num kd m (bodyI (ownerI 7 s act) act) (aboveI (ownerI 7 s act)) x (addL 40 hd (bodyI (ownerI 7 s act) act))).1) ∧ P' g') := by
      have Z : ∀ (o i : Int32), o = ownerI 7 s act → AW (fun _ => True) (rmd (5 + 3 * (n + 1)) 0 0) mX10_from 0 0 44 [some (.ref ν), some (.int s), some (.int act), some (.int x), some (.int (nI (41 - (n + 1)))), some (.int o), some (.int i)] [] (fun g' => VoAt ν num kd m hd g' ∧ Off ν 3 g g') (fun v g' => v = some (.int (sayG (voiV num kd m n) num kd m (bodyI (ownerI 7 s act) act) (aboveI (ownerI 7 s act)) x (addL 40 hd (bodyI (ownerI 7 s act) act))).1) ∧ P' g') := by
        intro o i ho
        rw [← ho] at hP ⊢
        refine r_iload (pc := 44) dX10_from_44 rfl ?_
        refine r_iload_n (pc := 46) dX10_from_46 rfl ?_
        refine r_Sp (pc := 47) (μ' := mX10_bodyOf) dX10_from_47 nX10_50 sX10_bodyOf kX10_bodyOf rfl rfl (rr (by omega) rfl) rfl ⟨Nat.zero_le _, Nat.zero_le _⟩ (fun h => ct_Vo_bodyOf h) ?_
        refine r_istore (pc := 50) dX10_from_50 (Nat.le_of_ble_eq_true rfl) rfl ?_
        dsimp only [lset]
        refine r_aload_n (pc := 52) dX10_from_52 rfl ?_
        refine r_getf (pc := 53) (k := 0) dX10_from_53 hX10 eX10 (by decide) fX10_14 (fun _ q => q.1.o) rfl ?_
        refine r_iload (pc := 56) dX10_from_56 rfl ?_
        refine r_Vi (pc := 58) (μ' := mX5_add) dX10_from_58 nX10_57 iX5_add vX5_add kX5_add rfl rfl (rr (by omega) rfl) rfl ⟨Nat.zero_le _, Nat.zero_le _⟩ (fun g' q => ct_Row_add (P' := fun g2 => VoAt ν num kd m (addL 40 hd (bodyI o act)) g2 ∧ Off ν 3 g g2) q.1.2.2 (fun g2 a b => ⟨q.1.setL a b, q.2.tr (b.wide (by omega) (by omega))⟩)) ?_
        refine r_pop (pc := 61) dX10_from_61 rfl ?_
        refine r_aload_n (pc := 62) dX10_from_62 rfl ?_
        refine r_iload (pc := 63) dX10_from_63 rfl ?_
        refine r_iload (pc := 65) dX10_from_65 rfl ?_
        refine r_Sp (pc := 67) (μ' := mX3_above) dX10_from_67 nX10_54 sX3_above kX3_above rfl rfl (rr (by omega) rfl) rfl ⟨Nat.zero_le _, Nat.zero_le _⟩ (fun h => ct_Kinds_above h) ?_
        refine r_iload_n (pc := 70) dX10_from_70 rfl ?_
        refine r_iload (pc := 71) dX10_from_71 rfl ?_
        refine r_iconst (pc := 73) (v := 1) dX10_from_73 (by decide) ?_
        refine r_iadd (pc := 74) dX10_from_74 ?_
        rw [nI_s, show 41 - (n + 1) + 1 = 41 - n by omega]
        refine r_Vi (pc := 75) (μ' := mX10_say) dX10_from_75 nX10_61 iX10_say vX10_say kX10_say rfl rfl (rr (by omega) rfl) rfl ⟨Nat.zero_le _, Nat.zero_le _⟩ (fun g' q => ct_Vo_say (ih (by omega)) q.1 (fun g2 a b => hP g2 a (q.2.tr b))) ?_
        refine r_ireturn (pc := 78) (ty := .int) dX10_from_78 rfl rfl ⟨Nat.zero_le _, Nat.zero_le _⟩ (fun gE hg => ?_)
        exact ⟨rfl, hg⟩
      intro k
      induction k with
      | zero =>
        intro o hk ho
        refine r_iload (pc := 15) dX10_from_15 rfl ?_
        refine r_bipush (pc := 17) (v := 7) dX10_from_17 (by decide) ?_
        refine r_icmp_ge (pc := 19) 44 dX10_from_19 (by decide) (fun c19 => ?_) (fun c19 => ?_)
        · skip
          exact Z _ _ ho
        · skip
          exact absurd (show (7 : Int32) ≤ nI (7 - 0) by decide) c19
      | succ k ihk =>
        intro o hk ho
        have hTk : (nI (7 - (k + 1))).toInt = ((7 - (k + 1) : Nat) : Int) := nI_T (by omega)
        refine r_iload (pc := 15) dX10_from_15 rfl ?_
        refine r_bipush (pc := 17) (v := 7) dX10_from_17 (by decide) ?_
        refine r_icmp_ge (pc := 19) 44 dX10_from_19 (by decide) (fun c19 => ?_) (fun c19 => ?_)
        · skip
          exact absurd (fa_le.mp c19) (by rw [hTk, show (7 : Int32).toInt = 7 from rfl]; omega)
        · skip
          refine r_iload (pc := 22) dX10_from_22 rfl ?_
          refine r_iload_n (pc := 24) dX10_from_24 rfl ?_
          refine r_Sp (pc := 25) (μ' := mX10_bodyOf) dX10_from_25 nX10_50 sX10_bodyOf kX10_bodyOf rfl rfl (rr (by omega) rfl) rfl ⟨Nat.zero_le _, Nat.zero_le _⟩ (fun h => ct_Vo_bodyOf h) ?_
          refine r_if_ne (pc := 28) 44 dX10_from_28 (by decide) (fun c28 => ?_) (fun c28 => ?_)
          · skip
            exact Z _ _ (by rw [← ho, ownerI, if_neg c28])
          · skip
            refine r_iload (pc := 31) dX10_from_31 rfl ?_
            refine r_Sp (pc := 33) (μ' := mX3_above) dX10_from_33 nX10_54 sX3_above kX3_above rfl rfl (rr (by omega) rfl) rfl ⟨Nat.zero_le _, Nat.zero_le _⟩ (fun h => ct_Kinds_above h) ?_
            refine r_istore (pc := 36) dX10_from_36 (Nat.le_of_ble_eq_true rfl) rfl ?_
            dsimp only [lset]
            refine r_iinc1 (pc := 38) dX10_from_38 rfl (Nat.le_of_ble_eq_true rfl) rfl ?_
            dsimp only [lset]
            refine r_goto (pc := 41) 15 dX10_from_41 (by decide) ?_
            rw [nI_s, show 7 - (k + 1) + 1 = 7 - k by omega]
            exact ihk _ (by omega) (by rw [← ho, ownerI, if_pos c28])
    refine aw_P (P' := fun g' => VoAt ν num kd m hd g' ∧ Off ν 3 g g') (fun g' e => by subst e; exact ⟨hR, Off.rf _ _ _⟩) ?_
    refine r_iload (pc := 0) dX10_from_0 rfl ?_
    refine r_bipush (pc := 2) (v := 40) dX10_from_2 (by decide) ?_
    refine r_icmp_le (pc := 4) 9 dX10_from_4 (by decide) (fun c4 => ?_) (fun c4 => ?_)
    · skip
      refine r_iload_n (pc := 9) dX10_from_9 rfl ?_
      refine r_istore (pc := 10) dX10_from_10 (Nat.le_of_ble_eq_true rfl) rfl ?_
      dsimp only [lset]
      refine r_iconst (pc := 12) (v := 0) dX10_from_12 (by decide) ?_
      refine r_istore (pc := 13) dX10_from_13 (Nat.le_of_ble_eq_true rfl) rfl ?_
      dsimp only [lset]
      exact L 7 s (Nat.le_refl _) rfl
    · skip
      exact absurd (fa_le.mpr (by rw [hT, show (40 : Int32).toInt = 40 from rfl]; omega)) c4
set_option maxHeartbeats 4000000 in
theorem ct_Vo_speak {c : Nat} {ks ms : List Int32} {i act x : Int32} (hR : VoAt ν num kd m hd g) (hC : CrewAt c ks ms g) (hd2 : c + 5 ≤ ν ∨ ν + 3 ≤ c) (hP : ∀ g', VoAt ν i (atL ks i) (atL ms i) (voiV i (atL ks i) (atL ms i) 41 (atL ks i) act x []).2 g' → Off ν 3 g g' → P' g') : CV 131 0 0 mX10_speak ν [.ref c, .int i, .int act, .int x] g (fun v g' => v = some (.int (voiV i (atL ks i) (atL ms i) 41 (atL ks i) act x []).1) ∧ P' g') := by
  refine ⟨hR.V, ?_⟩
  refine ct_of (by decide) (fun _ _ => Nat.le_of_ble_eq_true rfl) ?_
  dsimp only [pad, ent]
  refine aw_P (P' := fun g' => VoAt ν num kd m hd g' ∧ Off ν 3 g g') (fun g' e => by subst e; exact ⟨hR, Off.rf _ _ _⟩) ?_
  refine r_aload_n (pc := 0) dX10_speak_0 rfl ?_
  refine r_getf (pc := 1) (k := 0) dX10_speak_1 hX10 eX10 (by decide) fX10_14 (fun _ q => q.1.o) rfl ?_
  refine r_Vv (pc := 4) (μ' := mX5_clear) dX10_speak_4 nX10_28 iX5_clear vX5_clear kX5_clear rfl rfl (rr (by decide) rfl) rfl ⟨Nat.zero_le _, Nat.zero_le _⟩ (fun g' q => ct_Row_clear (P' := fun g2 => VoAt ν num kd m [] g2 ∧ Off ν 3 g g2) q.1.2.2 (fun g2 a b => ⟨q.1.setL a b, q.2.tr (b.wide (by omega) (by omega))⟩)) ?_
  refine r_aload_n (pc := 7) dX10_speak_7 rfl ?_
  refine r_iload_n (pc := 8) dX10_speak_8 rfl ?_
  refine r_putf (pc := 9) (k := 1) (P' := fun g2 => VoAt ν i kd m [] g2 ∧ Off ν 3 g g2) tyX10 dX10_speak_9 hX10 tyX10_ok nmX10 eX10 (by decide) fX10_18 rfl rfl (fun _ _ => rfl) (fun _ _ => rfl) (Nat.le_of_ble_eq_true rfl) (fun _ q => q.1.o) (fun _ q => ⟨q.1.put, q.2.set (by omega) (by omega)⟩) ?_
  refine r_aload_n (pc := 12) dX10_speak_12 rfl ?_
  refine r_aload_n (pc := 13) dX10_speak_13 rfl ?_
  refine r_iload_n (pc := 14) dX10_speak_14 rfl ?_
  refine r_Vi (pc := 15) (μ' := mX1_kindOf) dX10_speak_15 nX10_31 iX1_kindOf vX1_kindOf kX1_kindOf rfl rfl (rr (by decide) rfl) rfl ⟨Nat.zero_le _, Nat.zero_le _⟩ (fun g' q => ct_Crew_kindOf (hC.off q.2 (by omega)) q) ?_
  refine r_putf (pc := 18) (k := 2) (P' := fun g2 => VoAt ν i (atL ks i) m [] g2 ∧ Off ν 3 g g2) tyX10 dX10_speak_18 hX10 tyX10_ok nmX10 eX10 (by decide) fX10_22 rfl rfl (fun _ _ => rfl) (fun _ _ => rfl) (Nat.le_of_ble_eq_true rfl) (fun _ q => q.1.o) (fun _ q => ⟨q.1.put, q.2.set (by omega) (by omega)⟩) ?_
  refine r_aload_n (pc := 21) dX10_speak_21 rfl ?_
  refine r_aload_n (pc := 22) dX10_speak_22 rfl ?_
  refine r_iload_n (pc := 23) dX10_speak_23 rfl ?_
  refine r_Vi (pc := 24) (μ' := mX1_numberOf) dX10_speak_24 nX10_37 iX1_numberOf vX1_numberOf kX1_numberOf rfl rfl (rr (by decide) rfl) rfl ⟨Nat.zero_le _, Nat.zero_le _⟩ (fun g' q => ct_Crew_numberOf (hC.off q.2 (by omega)) q) ?_
  refine r_putf (pc := 27) (k := 3) (P' := fun g2 => VoAt ν i (atL ks i) (atL ms i) [] g2 ∧ Off ν 3 g g2) tyX10 dX10_speak_27 hX10 tyX10_ok nmX10 eX10 (by decide) fX10_25 rfl rfl (fun _ _ => rfl) (fun _ _ => rfl) (Nat.le_of_ble_eq_true rfl) (fun _ q => q.1.o) (fun _ q => ⟨q.1.put, q.2.set (by omega) (by omega)⟩) ?_
  refine r_aload_n (pc := 30) dX10_speak_30 rfl ?_
  refine r_iload_n (pc := 31) dX10_speak_31 rfl ?_
  refine r_iload (pc := 32) dX10_speak_32 rfl ?_
  refine r_iconst (pc := 34) (v := 0) dX10_speak_34 (by decide) ?_
  rw [show (0 : Int32) = nI (41 - 41) from rfl]
  refine r_Vi (pc := 35) (μ' := mX10_own) dX10_speak_35 nX10_40 iX10_own vX10_own kX10_own rfl rfl (rr (by decide) rfl) rfl ⟨Nat.zero_le _, Nat.zero_le _⟩ (fun g' q => ct_Vo_own (ct_Vo_from 41 (Nat.le_refl _)) q.1 (fun g2 a b => hP g2 a (q.2.tr b))) ?_
  refine r_ireturn (pc := 38) (ty := .int) dX10_speak_38 rfl rfl ⟨Nat.zero_le _, Nat.zero_le _⟩ (fun gE hg => ?_)
  exact ⟨rfl, hg⟩
set_option maxHeartbeats 4000000 in
theorem ct_Vo_heard (hR : VoAt ν num kd m hd g) (hP : P' g) : CV 1 0 0 mX10_heard ν [] g (fun v g' => v = some (.ref (ν + 1)) ∧ P' g') := by
  refine ⟨hR.V, ?_⟩
  refine ct_of (by decide) (fun _ _ => Nat.le_of_ble_eq_true rfl) ?_
  dsimp only [pad, ent]
  refine aw_P (P' := fun g' => VoAt ν num kd m hd g' ∧ g' = g) (fun g' e => by subst e; exact ⟨hR, rfl⟩) ?_
  refine r_aload_n (pc := 0) dX10_heard_0 rfl ?_
  refine r_getf (pc := 1) (k := 0) dX10_heard_1 hX10 eX10 (by decide) fX10_14 (fun _ q => q.1.o) rfl ?_
  refine r_areturn (pc := 4) dX10_heard_4 rfl ⟨Nat.zero_le _, Nat.zero_le _⟩ (fun gE hg => ?_)
  exact ⟨rfl, by rw [hg.2]; exact hP⟩
end Vo
