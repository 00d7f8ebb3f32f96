/-! WHAT WOULD BE (OneGoCeiling$Thought): the search for the order that is seen least -/
/-- where the strips of an order so far stand -/
def PlOk (n : Nat) (A : List Nat) (pl : List Int32) : Prop := pl.length = n ∧ ∀ t, t < n → pl.getD t 0 = if t ∈ A then nI (A.idxOf t) else -1
def SpOk (n : Nat) (A : List Nat) (sp : List Int32) : Prop := sp.length = n ∧ sp.take A.length = A.map nI
/-- what a strip adds, where its neighbours already stand in the order -/
def besN (n : Nat) (w : Nat → Nat → Nat → Nat) (A : List Nat) (s : Nat) : Nat :=
  (if 1 ≤ s ∧ s - 1 ∈ A then w (s - 1) (A.idxOf (s - 1)) (A.idxOf s) else 0) + (if s + 1 < n ∧ s + 1 ∈ A then w s (A.idxOf s) (A.idxOf (s + 1)) else 0)
def exF {β : Type} (f : Nat → β → β) : Nat → β → β
  | 0, b => b
  | k + 1, b => f k (exF f k b)
def exN (n : Nat) (w : Nat → Nat → Nat → Nat) : Nat → List Nat → Nat → Nat × List Int32 → Nat × List Int32
  | 0, A, v, b => if b.1 ≤ v then b else (v, A.map nI)
  | f + 1, A, v, b => if b.1 ≤ v then b else exF (fun s b => if s ∈ A then b else exN n w f (A ++ [s]) (v + besN n w (A ++ [s]) s) b) n b
theorem besN_le {n : Nat} {w : Nat → Nat → Nat → Nat} (hw : ∀ s p q, w s p q ≤ 600) (A : List Nat) (s : Nat) : besN n w A s ≤ 1200 := by
  have h1 := hw (s - 1) (A.idxOf (s - 1)) (A.idxOf s)
  have h2 := hw s (A.idxOf s) (A.idxOf (s + 1))
  unfold besN
  split <;> split <;> omega
theorem exF_le {n : Nat} {w : Nat → Nat → Nat → Nat} {f : Nat → Nat × List Int32 → Nat × List Int32} (hf : ∀ k b, (f k b).1 ≤ b.1) : ∀ k b, (exF f k b).1 ≤ b.1
  | 0, b => Nat.le_refl _
  | k + 1, b => Nat.le_trans (hf k _) (exF_le (n := n) (w := w) hf k b)
theorem exN_le {n : Nat} {w : Nat → Nat → Nat → Nat} : ∀ f A v b, (exN n w f A v b).1 ≤ b.1
  | 0, A, v, b => by
    rw [exN]; split
    · exact Nat.le_refl _
    · show v ≤ b.1; omega
  | f + 1, A, v, b => by
    rw [exN]; split
    · exact Nat.le_refl _
    · refine exF_le (n := n) (w := w) (fun k b => ?_) n b
      show (if k ∈ A then b else _).1 ≤ b.1
      split
      · exact Nat.le_refl _
      · exact exN_le f _ _ b
-- an order's rows
theorem m1_ne {n : Nat} (h : n ≤ 4000) : ¬ nI n = (-1 : Int32) := fun q => by
  have := fa_eq.mp q
  rw [nI_T h, show (-1 : Int32).toInt = -1 from rfl] at this; omega
theorem idx_app {A : List Nat} {s t : Nat} (h : t ∈ A) : (A ++ [s]).idxOf t = A.idxOf t := by rw [List.idxOf_append, if_pos h]
theorem idx_new {A : List Nat} {s : Nat} (h : ¬ s ∈ A) : (A ++ [s]).idxOf s = A.length := by
  rw [List.idxOf_append, if_neg h, show [s].idxOf s = 0 from List.idxOf_cons_self]; omega
theorem PlOk.put {n s : Nat} {A : List Nat} {pl : List Int32} (q : PlOk n A pl) (hs : s < n) (h : ¬ s ∈ A) : PlOk n (A ++ [s]) (pl.set s (nI A.length)) := by
  refine ⟨by rw [List.length_set]; exact q.1, fun t ht => ?_⟩
  rw [getD_set (by rw [q.1]; exact hs)]
  by_cases e : t = s
  · subst e
    rw [if_pos rfl, if_pos (List.mem_append_right _ (List.mem_singleton.mpr rfl)), idx_new h]
  · rw [if_neg e, q.2 t ht]
    by_cases m : t ∈ A
    · rw [if_pos m, if_pos (List.mem_append_left _ m), idx_app m]
    · rw [if_neg m, if_neg (fun x => by rcases List.mem_append.mp x with x | x; exact m x; exact e (List.mem_singleton.mp x))]
theorem PlOk.back {n s : Nat} {x : Int32} {A : List Nat} {pl : List Int32} (q : PlOk n A pl) (hs : s < n) (h : ¬ s ∈ A) : (pl.set s x).set s (-1) = pl := by
  have hl := q.1
  refine list_ext (by rw [List.length_set, List.length_set]) (fun t ht => ?_)
  rw [getD_set (by rw [List.length_set]; omega), getD_set (by omega)]
  by_cases e : t = s
  · subst e; rw [if_pos rfl, q.2 t hs, if_neg h]
  · rw [if_neg e, if_neg e]
theorem SpOk.put {n s : Nat} {A : List Nat} {sp : List Int32} (q : SpOk n A sp) (h : A.length < n) : SpOk n (A ++ [s]) (sp.set A.length (nI s)) := by
  refine ⟨by rw [List.length_set]; exact q.1, ?_⟩
  rw [List.length_append, List.map_append, ← q.2]
  show List.take (A.length + 1) _ = _
  rw [List.take_add_one, List.take_set_of_le (Nat.le_refl _), List.getElem?_set_self (by rw [q.1]; exact h)]
  rfl
theorem SpOk.cut {n s : Nat} {A : List Nat} {sp : List Int32} (q : SpOk n (A ++ [s]) sp) : SpOk n A sp := by
  refine ⟨q.1, ?_⟩
  have h := q.2
  rw [List.length_append, List.map_append] at h
  have := congrArg (List.take A.length) h
  rw [List.take_take, Nat.min_eq_left (Nat.le_add_right _ _), List.take_append_of_le_length (by rw [List.length_map]; exact Nat.le_refl _), show List.take A.length (List.map nI A) = List.map nI A from List.take_of_length_le (by rw [List.length_map]; exact Nat.le_refl _)] at this
  exact this
def WsOk (n : Nat) (w : Nat → Nat → Nat → Nat) (sb : List Int32) : Prop := ∀ s p q, s + 1 < n → p < n → q < n → p ≠ q → sb.getD ((s * 6 + p) * 6 + q) 0 = nI (w s p q)
section Tho4
variable {θ ε td : Nat} {be : Int32} {K : CK} {sp pl bs sb sw sx lD lL : List Int32} {g h : AH} {P' : AH → Prop} {w : Nat → Nat → Nat → Nat}
set_option maxHeartbeats 8000000 in
theorem ct_Th_seenBeside {s : Nat} {A : List Nat} (hT : ThK θ ε be K sp pl bs sb sw sx g) (ok : KOk K) (hp : PlOk (kSt K) A pl) (hA : A.length ≤ kSt K) (hs : s < kSt K) (hm : s ∈ A) (hw : WsOk (kSt K) w sb) (hP : P' g) : CV 2 0 0 mX9_seenBeside θ [.int (nI s)] g (fun v g' => v = some (.int (nI (besN (kSt K) w A s))) ∧ P' g') := by
  refine ⟨hT.V, ?_⟩
  refine ct_of (by decide) (fun _ _ => Nat.le_of_ble_eq_true rfl) ?_
  dsimp only [pad, ent]
  have hst : 1 ≤ kSt K ∧ kSt K ≤ 6 := ok.2.1
  have hix : ∀ t, t ∈ A → A.idxOf t < kSt K := fun t ht => Nat.lt_of_lt_of_le (List.idxOf_lt_length_iff.mpr ht) hA
  have hne : ∀ t u, t ∈ A → t ≠ u → A.idxOf t ≠ A.idxOf u := fun t u ht h e => h (by
    have h1 := List.getElem_idxOf (List.idxOf_lt_length_iff.mpr ht)
    by_cases hu : u ∈ A
    · have h2 := List.getElem_idxOf (List.idxOf_lt_length_iff.mpr hu)
      simp only [e] at h1
      exact h1.symm.trans h2
    · exact absurd (List.idxOf_lt_length_iff.mpr ht) (by rw [e, List.idxOf_eq_length hu]; omega))
  have hps : pl.getD s 0 = nI (A.idxOf s) := by rw [hp.2 s hs, if_pos hm]
  have hTl := nI_T (n := s) (by omega)
  have hlen : pl.length = kSt K := hp.1
  have hSp : nI s + 1 = nI (s + 1) := nI_s s
  have hT1 := nI_T (n := s + 1) (by omega)
  -- the strip behind
  have B1 : ∀ (x : Nat), (nI x : Int32) = nI x → True := fun _ _ => trivial
  have hh2 : hasL pl (nI (s + 1)) = decide (s + 1 < kSt K) := by
    unfold hasL; rw [hT1, hlen]; congr 1; exact propext ⟨fun q => by omega, fun q => by omega⟩
  have hv2 : atL pl (nI (s + 1)) = pl.getD (s + 1) 0 := atL_nI (by omega)
  have hvs : atL pl (nI s) = nI (A.idxOf s) := by rw [atL_nI (by omega), hps]
  have G : ∀ a : Nat, a = (if 1 ≤ s ∧ s - 1 ∈ A then w (s - 1) (A.idxOf (s - 1)) (A.idxOf s) else 0) → AW (fun _ => True) (rmd 2 0 0) mX9_seenBeside 0 0 63 [some (.ref θ), some (.int (nI s)), some (.int (nI a))] [] (fun g' => ThK θ ε be K sp pl bs sb sw sx g' ∧ g' = g) (fun v g' => v = some (.int (nI (besN (kSt K) w A s))) ∧ P' g') := by
    intro a ha
    unfold besN
    rw [← ha]
    by_cases c : s + 1 < kSt K
    · rw [decide_eq_true c] at hh2
      have hv3 := hp.2 (s + 1) c
      by_cases m : s + 1 ∈ A
      · rw [if_pos m] at hv3
        rw [if_pos ⟨c, m⟩]
        have hq := hix _ m
        have hp0 := hix _ hm
        have hsb := hw s (A.idxOf s) (A.idxOf (s + 1)) c hp0 hq (hne _ _ hm (by omega))
        refine r_aload_n (pc := 63) dX9_seenBeside_63 rfl ?_
        refine r_getf (pc := 64) (k := 3) dX9_seenBeside_64 hX9 eX9 (by decide) fX9_25 (fun _ q => q.1.o) rfl ?_
        refine r_iload_n (pc := 67) dX9_seenBeside_67 rfl ?_
        refine r_iconst (pc := 68) (v := 1) dX9_seenBeside_68 (by decide) ?_
        refine r_iadd (pc := 69) dX9_seenBeside_69 ?_
        rw [hSp]
        refine r_Vi (pc := 70) (μ' := mX5_has) dX9_seenBeside_70 nX9_99 iX5_has vX5_has kX5_has rfl rfl (rr (by decide) rfl) rfl ⟨Nat.zero_le _, Nat.zero_le _⟩ (fun g' q => ct_Row_has q.1.2.2.2.1 q) ?_
        rw [hh2]
        refine r_if_eq (pc := 73) 122 dX9_seenBeside_73 (by decide) (fun c73 => ?_) (fun c73 => ?_)
        · skip
          exact absurd c73 (by decide)
        · skip
          refine r_aload_n (pc := 76) dX9_seenBeside_76 rfl ?_
          refine r_getf (pc := 77) (k := 3) dX9_seenBeside_77 hX9 eX9 (by decide) fX9_25 (fun _ q => q.1.o) rfl ?_
          refine r_iload_n (pc := 80) dX9_seenBeside_80 rfl ?_
          refine r_iconst (pc := 81) (v := 1) dX9_seenBeside_81 (by decide) ?_
          refine r_iadd (pc := 82) dX9_seenBeside_82 ?_
          rw [hSp]
          refine r_Vi (pc := 83) (μ' := mX5_at) dX9_seenBeside_83 nX9_96 iX5_at vX5_at kX5_at rfl rfl (rr (by decide) rfl) rfl ⟨Nat.zero_le _, Nat.zero_le _⟩ (fun g' q => ct_Row_at q.1.2.2.2.1 q) ?_
          rw [hv2, hv3]
          refine r_iconst (pc := 86) (v := (-1)) dX9_seenBeside_86 (by decide) ?_
          refine r_icmp_eq (pc := 87) 122 dX9_seenBeside_87 (by decide) (fun c87 => ?_) (fun c87 => ?_)
          · skip
            exact absurd c87 (m1_ne (by omega))
          · skip
            refine r_iload_n (pc := 90) dX9_seenBeside_90 rfl ?_
            refine r_aload_n (pc := 91) dX9_seenBeside_91 rfl ?_
            refine r_getf (pc := 92) (k := 5) dX9_seenBeside_92 hX9 eX9 (by decide) fX9_31 (fun _ q => q.1.o) rfl ?_
            refine r_iload_n (pc := 95) dX9_seenBeside_95 rfl ?_
            refine r_aload_n (pc := 96) dX9_seenBeside_96 rfl ?_
            refine r_getf (pc := 97) (k := 3) dX9_seenBeside_97 hX9 eX9 (by decide) fX9_25 (fun _ q => q.1.o) rfl ?_
            refine r_iload_n (pc := 100) dX9_seenBeside_100 rfl ?_
            refine r_Vi (pc := 101) (μ' := mX5_at) dX9_seenBeside_101 nX9_96 iX5_at vX5_at kX5_at rfl rfl (rr (by decide) rfl) rfl ⟨Nat.zero_le _, Nat.zero_le _⟩ (fun g' q => ct_Row_at q.1.2.2.2.1 q) ?_
            rw [hvs]
            refine r_aload_n (pc := 104) dX9_seenBeside_104 rfl ?_
            refine r_getf (pc := 105) (k := 3) dX9_seenBeside_105 hX9 eX9 (by decide) fX9_25 (fun _ q => q.1.o) rfl ?_
            refine r_iload_n (pc := 108) dX9_seenBeside_108 rfl ?_
            refine r_iconst (pc := 109) (v := 1) dX9_seenBeside_109 (by decide) ?_
            refine r_iadd (pc := 110) dX9_seenBeside_110 ?_
            rw [hSp]
            refine r_Vi (pc := 111) (μ' := mX5_at) dX9_seenBeside_111 nX9_96 iX5_at vX5_at kX5_at rfl rfl (rr (by decide) rfl) rfl ⟨Nat.zero_le _, Nat.zero_le _⟩ (fun g' q => ct_Row_at q.1.2.2.2.1 q) ?_
            rw [hv2, hv3]
            refine r_Sp (pc := 114) (μ' := mX9_weightAt) dX9_seenBeside_114 nX9_121 sX9_weightAt kX9_weightAt rfl rfl (rr (by decide) rfl) rfl ⟨Nat.zero_le _, Nat.zero_le _⟩ (fun h => ct_Th_weightAt h) ?_
            refine r_Vi (pc := 117) (μ' := mX5_at) dX9_seenBeside_117 nX9_96 iX5_at vX5_at kX5_at rfl rfl (rr (by decide) rfl) rfl ⟨Nat.zero_le _, Nat.zero_le _⟩ (fun g' q => ct_Row_at q.1.2.2.2.2.2.1 q) ?_
            rw [atL_nI (by omega), hsb]
            refine r_iadd (pc := 120) dX9_seenBeside_120 ?_
            rw [nI_add]
            refine r_istore_n (pc := 121) dX9_seenBeside_121 rfl (Nat.le_of_ble_eq_true rfl) rfl ?_
            dsimp only [lset]
            refine r_iload_n (pc := 122) dX9_seenBeside_122 rfl ?_
            refine r_ireturn (pc := 123) (ty := .int) dX9_seenBeside_123 rfl rfl ⟨Nat.zero_le _, Nat.zero_le _⟩ (fun gE hg => ?_)
            exact ⟨rfl, by rw [hg.2]; exact hP⟩
      · rw [if_neg m] at hv3
        rw [if_neg (fun x => m x.2)]
        refine r_aload_n (pc := 63) dX9_seenBeside_63 rfl ?_
        refine r_getf (pc := 64) (k := 3) dX9_seenBeside_64 hX9 eX9 (by decide) fX9_25 (fun _ q => q.1.o) rfl ?_
        refine r_iload_n (pc := 67) dX9_seenBeside_67 rfl ?_
        refine r_iconst (pc := 68) (v := 1) dX9_seenBeside_68 (by decide) ?_
        refine r_iadd (pc := 69) dX9_seenBeside_69 ?_
        rw [hSp]
        refine r_Vi (pc := 70) (μ' := mX5_has) dX9_seenBeside_70 nX9_99 iX5_has vX5_has kX5_has rfl rfl (rr (by decide) rfl) rfl ⟨Nat.zero_le _, Nat.zero_le _⟩ (fun g' q => ct_Row_has q.1.2.2.2.1 q) ?_
        rw [hh2]
        refine r_if_eq (pc := 73) 122 dX9_seenBeside_73 (by decide) (fun c73 => ?_) (fun c73 => ?_)
        · skip
          exact absurd c73 (by decide)
        · skip
          refine r_aload_n (pc := 76) dX9_seenBeside_76 rfl ?_
          refine r_getf (pc := 77) (k := 3) dX9_seenBeside_77 hX9 eX9 (by decide) fX9_25 (fun _ q => q.1.o) rfl ?_
          refine r_iload_n (pc := 80) dX9_seenBeside_80 rfl ?_
          refine r_iconst (pc := 81) (v := 1) dX9_seenBeside_81 (by decide) ?_
          refine r_iadd (pc := 82) dX9_seenBeside_82 ?_
          rw [hSp]
          refine r_Vi (pc := 83) (μ' := mX5_at) dX9_seenBeside_83 nX9_96 iX5_at vX5_at kX5_at rfl rfl (rr (by decide) rfl) rfl ⟨Nat.zero_le _, Nat.zero_le _⟩ (fun g' q => ct_Row_at q.1.2.2.2.1 q) ?_
          rw [hv2, hv3]
          refine r_iconst (pc := 86) (v := (-1)) dX9_seenBeside_86 (by decide) ?_
          refine r_icmp_eq (pc := 87) 122 dX9_seenBeside_87 (by decide) (fun c87 => ?_) (fun c87 => ?_)
          · skip
            refine r_iload_n (pc := 122) dX9_seenBeside_122 rfl ?_
            refine r_ireturn (pc := 123) (ty := .int) dX9_seenBeside_123 rfl rfl ⟨Nat.zero_le _, Nat.zero_le _⟩ (fun gE hg => ?_)
            exact ⟨rfl, by rw [hg.2]; exact hP⟩
          · skip
            exact absurd rfl c87
    · rw [decide_eq_false c] at hh2
      rw [if_neg (fun x => c x.1)]
      refine r_aload_n (pc := 63) dX9_seenBeside_63 rfl ?_
      refine r_getf (pc := 64) (k := 3) dX9_seenBeside_64 hX9 eX9 (by decide) fX9_25 (fun _ q => q.1.o) rfl ?_
      refine r_iload_n (pc := 67) dX9_seenBeside_67 rfl ?_
      refine r_iconst (pc := 68) (v := 1) dX9_seenBeside_68 (by decide) ?_
      refine r_iadd (pc := 69) dX9_seenBeside_69 ?_
      rw [hSp]
      refine r_Vi (pc := 70) (μ' := mX5_has) dX9_seenBeside_70 nX9_99 iX5_has vX5_has kX5_has rfl rfl (rr (by decide) rfl) rfl ⟨Nat.zero_le _, Nat.zero_le _⟩ (fun g' q => ct_Row_has q.1.2.2.2.1 q) ?_
      rw [hh2]
      refine r_if_eq (pc := 73) 122 dX9_seenBeside_73 (by decide) (fun c73 => ?_) (fun c73 => ?_)
      · skip
        refine r_iload_n (pc := 122) dX9_seenBeside_122 rfl ?_
        refine r_ireturn (pc := 123) (ty := .int) dX9_seenBeside_123 rfl rfl ⟨Nat.zero_le _, Nat.zero_le _⟩ (fun gE hg => ?_)
        exact ⟨rfl, by rw [hg.2]; exact hP⟩
      · skip
        exact absurd (by decide) c73
  refine aw_P (P' := fun g' => ThK θ ε be K sp pl bs sb sw sx g' ∧ g' = g) (fun g' e => by subst e; exact ⟨hT, rfl⟩) ?_
  by_cases c : 1 ≤ s
  · obtain ⟨t, rfl⟩ : ∃ t, s = t + 1 := ⟨s - 1, by omega⟩
    have hpr : nI (t + 1) - 1 = nI t := nI_pred t
    have hTt := nI_T (n := t) (by omega)
    have hh1 : hasL pl (nI t) = true := by unfold hasL; rw [hTt, hlen]; exact decide_eq_true (by omega)
    have hv1 : atL pl (nI t) = pl.getD t 0 := atL_nI (by omega)
    have hv3 := hp.2 t (by omega)
    by_cases m : t ∈ A
    · rw [if_pos m] at hv3
      have hq := hix _ m
      have hp0 := hix _ hm
      have hsb := hw t (A.idxOf t) (A.idxOf (t + 1)) (by omega) hq hp0 (hne _ _ m (by omega))
      refine r_iconst (pc := 0) (v := 0) dX9_seenBeside_0 (by decide) ?_
      refine r_istore_n (pc := 1) dX9_seenBeside_1 rfl (Nat.le_of_ble_eq_true rfl) rfl ?_
      dsimp only [lset]
      refine r_aload_n (pc := 2) dX9_seenBeside_2 rfl ?_
      refine r_getf (pc := 3) (k := 3) dX9_seenBeside_3 hX9 eX9 (by decide) fX9_25 (fun _ q => q.1.o) rfl ?_
      refine r_iload_n (pc := 6) dX9_seenBeside_6 rfl ?_
      refine r_iconst (pc := 7) (v := 1) dX9_seenBeside_7 (by decide) ?_
      refine r_isub (pc := 8) dX9_seenBeside_8 ?_
      rw [hpr]
      refine r_Vi (pc := 9) (μ' := mX5_has) dX9_seenBeside_9 nX9_99 iX5_has vX5_has kX5_has rfl rfl (rr (by decide) rfl) rfl ⟨Nat.zero_le _, Nat.zero_le _⟩ (fun g' q => ct_Row_has q.1.2.2.2.1 q) ?_
      rw [hh1]
      refine r_if_eq (pc := 12) 63 dX9_seenBeside_12 (by decide) (fun c12 => ?_) (fun c12 => ?_)
      · skip
        exact absurd c12 (by decide)
      · skip
        refine r_aload_n (pc := 15) dX9_seenBeside_15 rfl ?_
        refine r_getf (pc := 16) (k := 3) dX9_seenBeside_16 hX9 eX9 (by decide) fX9_25 (fun _ q => q.1.o) rfl ?_
        refine r_iload_n (pc := 19) dX9_seenBeside_19 rfl ?_
        refine r_iconst (pc := 20) (v := 1) dX9_seenBeside_20 (by decide) ?_
        refine r_isub (pc := 21) dX9_seenBeside_21 ?_
        rw [hpr]
        refine r_Vi (pc := 22) (μ' := mX5_at) dX9_seenBeside_22 nX9_96 iX5_at vX5_at kX5_at rfl rfl (rr (by decide) rfl) rfl ⟨Nat.zero_le _, Nat.zero_le _⟩ (fun g' q => ct_Row_at q.1.2.2.2.1 q) ?_
        rw [hv1, hv3]
        refine r_iconst (pc := 25) (v := (-1)) dX9_seenBeside_25 (by decide) ?_
        refine r_icmp_eq (pc := 26) 63 dX9_seenBeside_26 (by decide) (fun c26 => ?_) (fun c26 => ?_)
        · skip
          exact absurd c26 (m1_ne (by omega))
        · skip
          refine r_iload_n (pc := 29) dX9_seenBeside_29 rfl ?_
          refine r_aload_n (pc := 30) dX9_seenBeside_30 rfl ?_
          refine r_getf (pc := 31) (k := 5) dX9_seenBeside_31 hX9 eX9 (by decide) fX9_31 (fun _ q => q.1.o) rfl ?_
          refine r_iload_n (pc := 34) dX9_seenBeside_34 rfl ?_
          refine r_iconst (pc := 35) (v := 1) dX9_seenBeside_35 (by decide) ?_
          refine r_isub (pc := 36) dX9_seenBeside_36 ?_
          rw [hpr]
          refine r_aload_n (pc := 37) dX9_seenBeside_37 rfl ?_
          refine r_getf (pc := 38) (k := 3) dX9_seenBeside_38 hX9 eX9 (by decide) fX9_25 (fun _ q => q.1.o) rfl ?_
          refine r_iload_n (pc := 41) dX9_seenBeside_41 rfl ?_
          refine r_iconst (pc := 42) (v := 1) dX9_seenBeside_42 (by decide) ?_
          refine r_isub (pc := 43) dX9_seenBeside_43 ?_
          rw [hpr]
          refine r_Vi (pc := 44) (μ' := mX5_at) dX9_seenBeside_44 nX9_96 iX5_at vX5_at kX5_at rfl rfl (rr (by decide) rfl) rfl ⟨Nat.zero_le _, Nat.zero_le _⟩ (fun g' q => ct_Row_at q.1.2.2.2.1 q) ?_
          rw [hv1, hv3]
          refine r_aload_n (pc := 47) dX9_seenBeside_47 rfl ?_
          refine r_getf (pc := 48) (k := 3) dX9_seenBeside_48 hX9 eX9 (by decide) fX9_25 (fun _ q => q.1.o) rfl ?_
          refine r_iload_n (pc := 51) dX9_seenBeside_51 rfl ?_
          refine r_Vi (pc := 52) (μ' := mX5_at) dX9_seenBeside_52 nX9_96 iX5_at vX5_at kX5_at rfl rfl (rr (by decide) rfl) rfl ⟨Nat.zero_le _, Nat.zero_le _⟩ (fun g' q => ct_Row_at q.1.2.2.2.1 q) ?_
          rw [hvs]
          refine r_Sp (pc := 55) (μ' := mX9_weightAt) dX9_seenBeside_55 nX9_121 sX9_weightAt kX9_weightAt rfl rfl (rr (by decide) rfl) rfl ⟨Nat.zero_le _, Nat.zero_le _⟩ (fun h => ct_Th_weightAt h) ?_
          refine r_Vi (pc := 58) (μ' := mX5_at) dX9_seenBeside_58 nX9_96 iX5_at vX5_at kX5_at rfl rfl (rr (by decide) rfl) rfl ⟨Nat.zero_le _, Nat.zero_le _⟩ (fun g' q => ct_Row_at q.1.2.2.2.2.2.1 q) ?_
          rw [atL_nI (by omega), hsb]
          refine r_iadd (pc := 61) dX9_seenBeside_61 ?_
          rw [← nI_0, nI_add, Nat.zero_add]
          refine r_istore_n (pc := 62) dX9_seenBeside_62 rfl (Nat.le_of_ble_eq_true rfl) rfl ?_
          dsimp only [lset]
          exact G _ (by rw [if_pos ⟨by omega, m⟩]; rfl)
    · rw [if_neg m] at hv3
      refine r_iconst (pc := 0) (v := 0) dX9_seenBeside_0 (by decide) ?_
      refine r_istore_n (pc := 1) dX9_seenBeside_1 rfl (Nat.le_of_ble_eq_true rfl) rfl ?_
      dsimp only [lset]
      refine r_aload_n (pc := 2) dX9_seenBeside_2 rfl ?_
      refine r_getf (pc := 3) (k := 3) dX9_seenBeside_3 hX9 eX9 (by decide) fX9_25 (fun _ q => q.1.o) rfl ?_
      refine r_iload_n (pc := 6) dX9_seenBeside_6 rfl ?_
      refine r_iconst (pc := 7) (v := 1) dX9_seenBeside_7 (by decide) ?_
      refine r_isub (pc := 8) dX9_seenBeside_8 ?_
      rw [hpr]
      refine r_Vi (pc := 9) (μ' := mX5_has) dX9_seenBeside_9 nX9_99 iX5_has vX5_has kX5_has rfl rfl (rr (by decide) rfl) rfl ⟨Nat.zero_le _, Nat.zero_le _⟩ (fun g' q => ct_Row_has q.1.2.2.2.1 q) ?_
      rw [hh1]
      refine r_if_eq (pc := 12) 63 dX9_seenBeside_12 (by decide) (fun c12 => ?_) (fun c12 => ?_)
      · skip
        exact absurd c12 (by decide)
      · skip
        refine r_aload_n (pc := 15) dX9_seenBeside_15 rfl ?_
        refine r_getf (pc := 16) (k := 3) dX9_seenBeside_16 hX9 eX9 (by decide) fX9_25 (fun _ q => q.1.o) rfl ?_
        refine r_iload_n (pc := 19) dX9_seenBeside_19 rfl ?_
        refine r_iconst (pc := 20) (v := 1) dX9_seenBeside_20 (by decide) ?_
        refine r_isub (pc := 21) dX9_seenBeside_21 ?_
        rw [hpr]
        refine r_Vi (pc := 22) (μ' := mX5_at) dX9_seenBeside_22 nX9_96 iX5_at vX5_at kX5_at rfl rfl (rr (by decide) rfl) rfl ⟨Nat.zero_le _, Nat.zero_le _⟩ (fun g' q => ct_Row_at q.1.2.2.2.1 q) ?_
        rw [hv1, hv3]
        refine r_iconst (pc := 25) (v := (-1)) dX9_seenBeside_25 (by decide) ?_
        refine r_icmp_eq (pc := 26) 63 dX9_seenBeside_26 (by decide) (fun c26 => ?_) (fun c26 => ?_)
        · skip
          exact G 0 (by rw [if_neg (fun x => m x.2)])
        · skip
          exact absurd rfl c26
  · have h0 : s = 0 := by omega
    have hh1 : hasL pl (nI s - 1) = false := by subst h0; rfl
    refine r_iconst (pc := 0) (v := 0) dX9_seenBeside_0 (by decide) ?_
    refine r_istore_n (pc := 1) dX9_seenBeside_1 rfl (Nat.le_of_ble_eq_true rfl) rfl ?_
    dsimp only [lset]
    refine r_aload_n (pc := 2) dX9_seenBeside_2 rfl ?_
    refine r_getf (pc := 3) (k := 3) dX9_seenBeside_3 hX9 eX9 (by decide) fX9_25 (fun _ q => q.1.o) rfl ?_
    refine r_iload_n (pc := 6) dX9_seenBeside_6 rfl ?_
    refine r_iconst (pc := 7) (v := 1) dX9_seenBeside_7 (by decide) ?_
    refine r_isub (pc := 8) dX9_seenBeside_8 ?_
    refine r_Vi (pc := 9) (μ' := mX5_has) dX9_seenBeside_9 nX9_99 iX5_has vX5_has kX5_has rfl rfl (rr (by decide) rfl) rfl ⟨Nat.zero_le _, Nat.zero_le _⟩ (fun g' q => ct_Row_has q.1.2.2.2.1 q) ?_
    rw [hh1]
    refine r_if_eq (pc := 12) 63 dX9_seenBeside_12 (by decide) (fun c12 => ?_) (fun c12 => ?_)
    · skip
      exact G 0 (by rw [if_neg (fun x => c x.1)])
    · skip
      exact absurd (by decide) c12
set_option maxHeartbeats 16000000 in
theorem ct_Th_extendOrder (ok : KOk K) (hw : WsOk (kSt K) w sb) (hw6 : ∀ s p q, w s p q ≤ 600) : ∀ (f : Nat) (A : List Nat) (m v : Nat) (b : Nat × List Int32) (sp : List Int32) (pl : List Int32) (g : AH) (P' : AH → Prop), ThK θ ε (nI b.1) K sp pl b.2 sb sw sx g → A.length = m → f + m = kSt K → PlOk (kSt K) A pl → SpOk (kSt K) A sp → v ≤ 1200 * m → b.1 ≤ 1000000 → (∀ g' sp', SpOk (kSt K) A sp' → ThK θ ε (nI (exN (kSt K) w f A v b).1) K sp' pl (exN (kSt K) w f A v b).2 sb sw sx g' → Off θ 18 g g' → P' g') → CV (f + 4) 0 0 mX9_extendOrder θ [.int (nI m), .int (nI v)] g (fun r g' => r = none ∧ P' g') := by
  have hst : 1 ≤ kSt K ∧ kSt K ≤ 6 := ok.2.1
  have hTst := nI_T (n := kSt K) (by omega)
  have hsN : nI K.2.1 = nI (kSt K) := rfl
  intro f
  induction f with
  | zero =>
    intro A m v b sp pl g P' hT hA hf hp hsp hv hb hP
    have hm : m = kSt K := by omega
    have hTv := nI_toInt (n := v) (by omega)
    have hTb := nI_toInt (n := b.1) (by omega)
    rw [exN] at hP
    refine ⟨hT.V, ?_⟩
    refine ct_of (by decide) (fun _ _ => Nat.le_of_ble_eq_true rfl) ?_
    dsimp only [pad, ent]
    refine aw_P (P' := fun g' => ThK θ ε (nI b.1) K sp pl b.2 sb sw sx g' ∧ Off θ 18 g g') (fun g' e => by subst e; exact ⟨hT, Off.rf _ _ _⟩) ?_
    refine r_aload_n (pc := 0) dX9_extendOrder_0 rfl ?_
    refine r_getf (pc := 1) (k := 1) dX9_extendOrder_1 hX9 eX9 (by decide) fX9_10 (fun _ q => q.1.o) rfl ?_
    refine r_Vi (pc := 4) (μ' := mX0_strips) dX9_extendOrder_4 nX9_55 iX0_strips vX0_strips kX0_strips rfl rfl (rr (by decide) rfl) rfl ⟨Nat.zero_le _, Nat.zero_le _⟩ (fun g' q => ct_Ceil_strips (q.1.2.1 : CeilI _ _ _ _ _ _ _ _ _ _ _ _) q) ?_
    refine r_istore_n (pc := 7) dX9_extendOrder_7 rfl (Nat.le_of_ble_eq_true rfl) rfl ?_
    dsimp only [lset]
    refine r_iload_n (pc := 8) dX9_extendOrder_8 rfl ?_
    refine r_aload_n (pc := 9) dX9_extendOrder_9 rfl ?_
    refine r_getf (pc := 10) (k := 8) dX9_extendOrder_10 hX9 eX9 (by decide) fX9_40 (fun _ q => q.1.o) rfl ?_
    refine r_icmp_ge (pc := 13) 21 dX9_extendOrder_13 (by decide) (fun c13 => ?_) (fun c13 => ?_)
    · skip
      rw [if_pos (by have := fa_le.mp c13; omega)] at hP
      refine r_return (pc := 21) dX9_extendOrder_21 rfl ⟨Nat.zero_le _, Nat.zero_le _⟩ (fun gE hg => ?_)
      exact ⟨rfl, hP _ sp hsp hg.1 hg.2⟩
    · skip
      rw [if_neg (fun q => c13 (fa_le.mpr (by omega)))] at hP
      refine r_iload_n (pc := 16) dX9_extendOrder_16 rfl ?_
      refine r_iload_n (pc := 17) dX9_extendOrder_17 rfl ?_
      refine r_icmp_le (pc := 18) 22 dX9_extendOrder_18 (by decide) (fun c18 => ?_) (fun c18 => ?_)
      · skip
        refine r_iload_n (pc := 22) dX9_extendOrder_22 rfl ?_
        refine r_iload_n (pc := 23) dX9_extendOrder_23 rfl ?_
        refine r_icmp_ne (pc := 24) 44 dX9_extendOrder_24 (by decide) (fun c24 => ?_) (fun c24 => ?_)
        · skip
          exact absurd (by rw [hm]) c24
        · skip
          refine r_aload_n (pc := 27) dX9_extendOrder_27 rfl ?_
          refine r_iload_n (pc := 28) dX9_extendOrder_28 rfl ?_
          refine r_putf (pc := 29) (k := 8) (P' := fun g' => ThK θ ε (nI v) K sp pl b.2 sb sw sx g' ∧ Off θ 18 g g') tyX9 dX9_extendOrder_29 hX9 tyX9_ok nmX9 eX9 (by decide) fX9_40 rfl rfl (fun _ _ => rfl) (fun _ _ => rfl) (Nat.le_of_ble_eq_true rfl) (fun _ q => q.1.o) (fun _ q => ⟨q.1.putB, q.2.set (by omega) (by omega)⟩) ?_
          refine r_aload_n (pc := 32) dX9_extendOrder_32 rfl ?_
          refine r_getf (pc := 33) (k := 4) dX9_extendOrder_33 hX9 eX9 (by decide) fX9_28 (fun _ q => q.1.o) rfl ?_
          refine r_aload_n (pc := 36) dX9_extendOrder_36 rfl ?_
          refine r_getf (pc := 37) (k := 2) dX9_extendOrder_37 hX9 eX9 (by decide) fX9_21 (fun _ q => q.1.o) rfl ?_
          refine r_Vv (pc := 40) (μ' := mX5_take) dX9_extendOrder_40 nX9_115 iX5_take vX5_take kX5_take rfl rfl (rr (by decide) rfl) rfl ⟨Nat.zero_le _, Nat.zero_le _⟩ (fun g' q => ct_Row_take (P' := fun g2 => ThK θ ε (nI v) K sp pl (A.map nI) sb sw sx g2 ∧ Off θ 18 g g2) q.1.2.2.2.2.1 q.1.2.2.1 (by omega) (fun g2 a b => ⟨q.1.set_bs (by rw [List.take_of_length_le (by rw [hsp.1]; omega)] at a; have h2 := hsp.2; rw [List.take_of_length_le (by rw [hsp.1]; omega)] at h2; rw [← h2]; exact a) b, q.2.tr (b.wide (by omega) (by omega))⟩)) ?_
          refine r_return (pc := 43) dX9_extendOrder_43 rfl ⟨Nat.zero_le _, Nat.zero_le _⟩ (fun gE hg => ?_)
          exact ⟨rfl, hP _ sp hsp hg.1 hg.2⟩
      · skip
        exact absurd (by rw [hm, hsN]; exact fa_le.mpr (Int.le_refl _)) c18
  | succ f ih =>
    intro A m v b sp pl g P' hT hA hf hp hsp hv hb hP
    have hm : m < kSt K := by omega
    have hTm := nI_T (n := m) (by omega)
    have hTv := nI_toInt (n := v) (by omega)
    have hTb := nI_toInt (n := b.1) (by omega)
    rw [exN] at hP
    refine ⟨hT.V, ?_⟩
    refine ct_of (by decide) (fun _ _ => Nat.le_of_ble_eq_true rfl) ?_
    dsimp only [pad, ent]
    have L : ¬ b.1 ≤ v → ∀ k, k ≤ kSt K → AW (fun _ => True) (rmd (f + 1 + 4) 0 0) mX9_extendOrder 0 0 47 [some (.ref θ), some (.int (nI m)), some (.int (nI v)), some (.int (nI (kSt K))), some (.int (nI k))] [] (fun g' => ∃ sp', SpOk (kSt K) A sp' ∧ (ThK θ ε (nI (exF (fun s b => if s ∈ A then b else exN (kSt K) w f (A ++ [s]) (v + besN (kSt K) w (A ++ [s]) s) b) k b).1) K sp' pl (exF (fun s b => if s ∈ A then b else exN (kSt K) w f (A ++ [s]) (v + besN (kSt K) w (A ++ [s]) s) b) k b).2 sb sw sx g' ∧ Off θ 18 g g')) (fun r g' => r = none ∧ P' g') := by
      intro hbv
      rw [if_neg hbv] at hP
      refine up_loop ?_ ?_
      · refine aw_ex fun sp' => aw_pr fun hsp' => ?_
        refine r_iload (pc := 47) dX9_extendOrder_47 rfl ?_
        refine r_iload_n (pc := 49) dX9_extendOrder_49 rfl ?_
        refine r_icmp_ge (pc := 50) 117 dX9_extendOrder_50 (by decide) (fun c50 => ?_) (fun c50 => ?_)
        · skip
          refine r_return (pc := 117) dX9_extendOrder_117 rfl ⟨Nat.zero_le _, Nat.zero_le _⟩ (fun gE hg => ?_)
          exact ⟨rfl, hP _ sp' hsp' hg.1 hg.2⟩
        · skip
          exact absurd (fa_le.mpr (Int.le_refl _)) c50
      · intro k hk ihk
        refine aw_ex fun sp' => aw_pr fun hsp' => ?_
        rw [exF] at ihk
        obtain ⟨b', hb'⟩ : ∃ b', b' = exF (fun s b => if s ∈ A then b else exN (kSt K) w f (A ++ [s]) (v + besN (kSt K) w (A ++ [s]) s) b) k b := ⟨_, rfl⟩
        rw [← hb'] at ihk ⊢
        have hb2 : b'.1 ≤ 1000000 := by
          rw [hb']
          refine Nat.le_trans (exF_le (n := kSt K) (w := w) (fun j b => ?_) k b) hb
          show (if j ∈ A then b else _).1 ≤ b.1
          split
          · exact Nat.le_refl _
          · exact exN_le f _ _ b
        have hTk := nI_T (n := k) (by omega)
        have hpk := hp.2 k hk
        by_cases hin : k ∈ A
        · rw [if_pos hin] at hpk ihk
          have hix := List.idxOf_lt_length_iff.mpr hin
          refine r_iload (pc := 47) dX9_extendOrder_47 rfl ?_
          refine r_iload_n (pc := 49) dX9_extendOrder_49 rfl ?_
          refine r_icmp_ge (pc := 50) 117 dX9_extendOrder_50 (by decide) (fun c50 => ?_) (fun c50 => ?_)
          · skip
            exact absurd c50 (fun q => by have := fa_le.mp q; omega)
          · skip
            refine r_aload_n (pc := 53) dX9_extendOrder_53 rfl ?_
            refine r_getf (pc := 54) (k := 3) dX9_extendOrder_54 hX9 eX9 (by decide) fX9_25 (fun _ q => q.1.o) rfl ?_
            refine r_iload (pc := 57) dX9_extendOrder_57 rfl ?_
            refine r_Vi (pc := 59) (μ' := mX5_at) dX9_extendOrder_59 nX9_96 iX5_at vX5_at kX5_at rfl rfl (rr (by omega) rfl) rfl ⟨Nat.zero_le _, Nat.zero_le _⟩ (fun g' q => ct_Row_at q.1.2.2.2.1 q) ?_
            rw [atL_nI (by omega), hpk]
            refine r_iconst (pc := 62) (v := (-1)) dX9_extendOrder_62 (by decide) ?_
            refine r_icmp_ne (pc := 63) 111 dX9_extendOrder_63 (by decide) (fun c63 => ?_) (fun c63 => ?_)
            · skip
              refine r_iinc1 (pc := 111) dX9_extendOrder_111 rfl (Nat.le_of_ble_eq_true rfl) rfl ?_
              dsimp only [lset]
              refine r_goto (pc := 114) 47 dX9_extendOrder_114 (by decide) ?_
              rw [nI_s]
              exact aw_P (fun g' q => ⟨sp', hsp', q⟩) ihk
            · skip
              exact absurd c63 (m1_ne (by omega))
        · rw [if_neg hin] at hpk ihk
          have hbe := besN_le (n := kSt K) hw6 (A ++ [k]) k
          refine r_iload (pc := 47) dX9_extendOrder_47 rfl ?_
          refine r_iload_n (pc := 49) dX9_extendOrder_49 rfl ?_
          refine r_icmp_ge (pc := 50) 117 dX9_extendOrder_50 (by decide) (fun c50 => ?_) (fun c50 => ?_)
          · skip
            exact absurd c50 (fun q => by have := fa_le.mp q; omega)
          · skip
            refine r_aload_n (pc := 53) dX9_extendOrder_53 rfl ?_
            refine r_getf (pc := 54) (k := 3) dX9_extendOrder_54 hX9 eX9 (by decide) fX9_25 (fun _ q => q.1.o) rfl ?_
            refine r_iload (pc := 57) dX9_extendOrder_57 rfl ?_
            refine r_Vi (pc := 59) (μ' := mX5_at) dX9_extendOrder_59 nX9_96 iX5_at vX5_at kX5_at rfl rfl (rr (by omega) rfl) rfl ⟨Nat.zero_le _, Nat.zero_le _⟩ (fun g' q => ct_Row_at q.1.2.2.2.1 q) ?_
            rw [atL_nI (by omega), hpk]
            refine r_iconst (pc := 62) (v := (-1)) dX9_extendOrder_62 (by decide) ?_
            refine r_icmp_ne (pc := 63) 111 dX9_extendOrder_63 (by decide) (fun c63 => ?_) (fun c63 => ?_)
            · skip
              exact absurd rfl c63
            · skip
              refine r_aload_n (pc := 66) dX9_extendOrder_66 rfl ?_
              refine r_getf (pc := 67) (k := 2) dX9_extendOrder_67 hX9 eX9 (by decide) fX9_21 (fun _ q => q.1.o) rfl ?_
              refine r_iload_n (pc := 70) dX9_extendOrder_70 rfl ?_
              refine r_iload (pc := 71) dX9_extendOrder_71 rfl ?_
              refine r_Vv (pc := 73) (μ' := mX5_write) dX9_extendOrder_73 nX9_103 iX5_write vX5_write kX5_write rfl rfl (rr (by omega) rfl) rfl ⟨Nat.zero_le _, Nat.zero_le _⟩ (fun g' q => ct_Row_write (P' := fun g2 => ThK θ ε (nI b'.1) K (sp'.set m (nI k)) pl b'.2 sb sw sx g2 ∧ Off θ 18 g g2) q.1.2.2.1 (fun g2 a b => ⟨q.1.set_sp (by rw [wrL_nI (by omega)] at a; exact a) b, q.2.tr (b.wide (by omega) (by omega))⟩)) ?_
              refine r_aload_n (pc := 76) dX9_extendOrder_76 rfl ?_
              refine r_getf (pc := 77) (k := 3) dX9_extendOrder_77 hX9 eX9 (by decide) fX9_25 (fun _ q => q.1.o) rfl ?_
              refine r_iload (pc := 80) dX9_extendOrder_80 rfl ?_
              refine r_iload_n (pc := 82) dX9_extendOrder_82 rfl ?_
              refine r_Vv (pc := 83) (μ' := mX5_write) dX9_extendOrder_83 nX9_103 iX5_write vX5_write kX5_write rfl rfl (rr (by omega) rfl) rfl ⟨Nat.zero_le _, Nat.zero_le _⟩ (fun g' q => ct_Row_write (P' := fun g2 => ThK θ ε (nI b'.1) K (sp'.set m (nI k)) (pl.set k (nI m)) b'.2 sb sw sx g2 ∧ Off θ 18 g g2) q.1.2.2.2.1 (fun g2 a b => ⟨q.1.set_pl (by rw [wrL_nI (by omega)] at a; exact a) b, q.2.tr (b.wide (by omega) (by omega))⟩)) ?_
              refine r_aload_n (pc := 86) dX9_extendOrder_86 rfl ?_
              refine r_iload_n (pc := 87) dX9_extendOrder_87 rfl ?_
              refine r_iconst (pc := 88) (v := 1) dX9_extendOrder_88 (by decide) ?_
              refine r_iadd (pc := 89) dX9_extendOrder_89 ?_
              rw [nI_s]
              refine r_iload_n (pc := 90) dX9_extendOrder_90 rfl ?_
              refine r_aload_n (pc := 91) dX9_extendOrder_91 rfl ?_
              refine r_iload (pc := 92) dX9_extendOrder_92 rfl ?_
              refine r_Vi (pc := 94) (μ' := mX9_seenBeside) dX9_extendOrder_94 nX9_118 iX9_seenBeside vX9_seenBeside kX9_seenBeside rfl rfl (rr (by omega) rfl) rfl ⟨Nat.zero_le _, Nat.zero_le _⟩ (fun g' q => ct_Th_seenBeside (A := A ++ [k]) q.1 ok (by have := hp.put hk hin; rw [hA] at this; exact this) (by rw [List.length_append]; show A.length + 1 ≤ _; omega) hk (List.mem_append_right _ (List.mem_singleton.mpr rfl)) hw q) ?_
              refine r_iadd (pc := 97) dX9_extendOrder_97 ?_
              rw [nI_add]
              refine r_Vv (pc := 98) (μ' := mX9_extendOrder) dX9_extendOrder_98 nX9_112 iX9_extendOrder vX9_extendOrder kX9_extendOrder rfl rfl (rr (by omega) rfl) rfl ⟨Nat.zero_le _, Nat.zero_le _⟩ (fun g' q => ih (A ++ [k]) (m + 1) (v + besN (kSt K) w (A ++ [k]) k) b' _ _ g' (fun g2 => ∃ sp2, SpOk (kSt K) A sp2 ∧ (ThK θ ε (nI (exN (kSt K) w f (A ++ [k]) (v + besN (kSt K) w (A ++ [k]) k) b').1) K sp2 (pl.set k (nI m)) (exN (kSt K) w f (A ++ [k]) (v + besN (kSt K) w (A ++ [k]) k) b').2 sb sw sx g2 ∧ Off θ 18 g g2)) q.1 (by rw [List.length_append, hA]; rfl) (by omega) (by have := hp.put hk hin; rw [hA] at this; exact this) (by have := hsp'.put (s := k) (by rw [hA]; exact hm); rw [hA] at this; exact this) (by omega) hb2 (fun g2 sp2 a b c => ⟨sp2, a.cut, b, q.2.tr c⟩)) ?_
              refine aw_ex fun sp2 => aw_pr fun hsp2 => ?_
              refine r_aload_n (pc := 101) dX9_extendOrder_101 rfl ?_
              refine r_getf (pc := 102) (k := 3) dX9_extendOrder_102 hX9 eX9 (by decide) fX9_25 (fun _ q => q.1.o) rfl ?_
              refine r_iload (pc := 105) dX9_extendOrder_105 rfl ?_
              refine r_iconst (pc := 107) (v := (-1)) dX9_extendOrder_107 (by decide) ?_
              refine r_Vv (pc := 108) (μ' := mX5_write) dX9_extendOrder_108 nX9_103 iX5_write vX5_write kX5_write rfl rfl (rr (by omega) rfl) rfl ⟨Nat.zero_le _, Nat.zero_le _⟩ (fun g' q => ct_Row_write (P' := fun g2 => ∃ sp2, SpOk (kSt K) A sp2 ∧ (ThK θ ε (nI (exN (kSt K) w f (A ++ [k]) (v + besN (kSt K) w (A ++ [k]) k) b').1) K sp2 pl (exN (kSt K) w f (A ++ [k]) (v + besN (kSt K) w (A ++ [k]) k) b').2 sb sw sx g2 ∧ Off θ 18 g g2)) q.1.2.2.2.1 (fun g2 a b => ⟨sp2, hsp2, q.1.set_pl (by rw [wrL_nI (by omega), hp.back hk hin] at a; exact a) b, q.2.tr (b.wide (by omega) (by omega))⟩)) ?_
              refine r_iinc1 (pc := 111) dX9_extendOrder_111 rfl (Nat.le_of_ble_eq_true rfl) rfl ?_
              dsimp only [lset]
              refine r_goto (pc := 114) 47 dX9_extendOrder_114 (by decide) ?_
              rw [nI_s]
              exact ihk
    refine aw_P (P' := fun g' => ThK θ ε (nI b.1) K sp pl b.2 sb sw sx g' ∧ Off θ 18 g g') (fun g' e => by subst e; exact ⟨hT, Off.rf _ _ _⟩) ?_
    refine r_aload_n (pc := 0) dX9_extendOrder_0 rfl ?_
    refine r_getf (pc := 1) (k := 1) dX9_extendOrder_1 hX9 eX9 (by decide) fX9_10 (fun _ q => q.1.o) rfl ?_
    refine r_Vi (pc := 4) (μ' := mX0_strips) dX9_extendOrder_4 nX9_55 iX0_strips vX0_strips kX0_strips rfl rfl (rr (by omega) rfl) rfl ⟨Nat.zero_le _, Nat.zero_le _⟩ (fun g' q => ct_Ceil_strips (q.1.2.1 : CeilI _ _ _ _ _ _ _ _ _ _ _ _) q) ?_
    refine r_istore_n (pc := 7) dX9_extendOrder_7 rfl (Nat.le_of_ble_eq_true rfl) rfl ?_
    dsimp only [lset]
    refine r_iload_n (pc := 8) dX9_extendOrder_8 rfl ?_
    refine r_aload_n (pc := 9) dX9_extendOrder_9 rfl ?_
    refine r_getf (pc := 10) (k := 8) dX9_extendOrder_10 hX9 eX9 (by decide) fX9_40 (fun _ q => q.1.o) rfl ?_
    refine r_icmp_ge (pc := 13) 21 dX9_extendOrder_13 (by decide) (fun c13 => ?_) (fun c13 => ?_)
    · skip
      have hbv : b.1 ≤ v := by have := fa_le.mp c13; omega
      rw [if_pos hbv] at hP
      refine r_return (pc := 21) dX9_extendOrder_21 rfl ⟨Nat.zero_le _, Nat.zero_le _⟩ (fun gE hg => ?_)
      exact ⟨rfl, hP _ sp hsp hg.1 hg.2⟩
    · skip
      have hbv : ¬ b.1 ≤ v := fun q => c13 (fa_le.mpr (by omega))
      refine r_iload_n (pc := 16) dX9_extendOrder_16 rfl ?_
      refine r_iload_n (pc := 17) dX9_extendOrder_17 rfl ?_
      refine r_icmp_le (pc := 18) 22 dX9_extendOrder_18 (by decide) (fun c18 => ?_) (fun c18 => ?_)
      · skip
        refine r_iload_n (pc := 22) dX9_extendOrder_22 rfl ?_
        refine r_iload_n (pc := 23) dX9_extendOrder_23 rfl ?_
        refine r_icmp_ne (pc := 24) 44 dX9_extendOrder_24 (by decide) (fun c24 => ?_) (fun c24 => ?_)
        · skip
          refine r_iconst (pc := 44) (v := 0) dX9_extendOrder_44 (by decide) ?_
          refine r_istore (pc := 45) dX9_extendOrder_45 (Nat.le_of_ble_eq_true rfl) rfl ?_
          dsimp only [lset]
          exact aw_P (fun g' q => ⟨sp, hsp, q⟩) (L hbv 0 (Nat.zero_le _))
        · skip
          exact absurd c24 (fun q => by have := fa_eq.mp q; rw [hTm, hsN, hTst] at this; omega)
      · skip
        exact absurd (fa_le.mpr (by rw [hTm, hsN, hTst]; omega)) c18
set_option maxHeartbeats 8000000 in
theorem ct_Th_findBelow {bd : Nat} (hT : ThK θ ε be K sp pl bs sb sw sx g) (ok : KOk K) (hw : WsOk (kSt K) w sb) (hw6 : ∀ s p q, w s p q ≤ 600) (hb : bd ≤ 1000000) (hP : ∀ g' sp' pl', ThK θ ε (nI (exN (kSt K) w (kSt K) [] 0 (bd, bs)).1) K sp' pl' (exN (kSt K) w (kSt K) [] 0 (bd, bs)).2 sb sw sx g' → Off θ 18 g g' → P' g') : CV 12 0 0 mX9_findBelow θ [.int (nI bd)] g (fun r g' => r = none ∧ P' g') := by
  refine ⟨hT.V, ?_⟩
  refine ct_of (by decide) (fun _ _ => Nat.le_of_ble_eq_true rfl) ?_
  dsimp only [pad, ent]
  have hst : 1 ≤ kSt K ∧ kSt K ≤ 6 := ok.2.1
  have hTst := nI_T (n := kSt K) (by omega)
  have hcl : clampI (nI (kSt K)) 6 = kSt K := by unfold clampI; rw [hTst]; omega
  refine aw_P (P' := fun g' => ThK θ ε be K sp pl bs sb sw sx g' ∧ Off θ 18 g g') (fun g' e => by subst e; exact ⟨hT, Off.rf _ _ _⟩) ?_
  refine r_aload_n (pc := 0) dX9_findBelow_0 rfl ?_
  refine r_getf (pc := 1) (k := 2) dX9_findBelow_1 hX9 eX9 (by decide) fX9_21 (fun _ q => q.1.o) rfl ?_
  refine r_aload_n (pc := 4) dX9_findBelow_4 rfl ?_
  refine r_getf (pc := 5) (k := 1) dX9_findBelow_5 hX9 eX9 (by decide) fX9_10 (fun _ q => q.1.o) rfl ?_
  refine r_Vi (pc := 8) (μ' := mX0_strips) dX9_findBelow_8 nX9_55 iX0_strips vX0_strips kX0_strips rfl rfl (rr (by omega) rfl) rfl ⟨Nat.zero_le _, Nat.zero_le _⟩ (fun g' q => ct_Ceil_strips (q.1.2.1 : CeilI _ _ _ _ _ _ _ _ _ _ _ _) q) ?_
  refine r_iconst (pc := 11) (v := 0) dX9_findBelow_11 (by decide) ?_
  refine r_Vv (pc := 12) (μ' := mX5_fill) dX9_findBelow_12 nX9_92 iX5_fill vX5_fill kX5_fill rfl rfl (rr (by omega) rfl) rfl ⟨Nat.zero_le _, Nat.zero_le _⟩ (fun g' q => ct_Row_fill (P' := fun g2 => ThK θ ε be K (List.replicate (kSt K) 0) pl bs sb sw sx g2 ∧ Off θ 18 g g2) q.1.2.2.1 (fun g2 a b => ⟨q.1.set_sp (by rw [show clampI (nI K.2.1) 6 = kSt K from hcl] at a; exact a) b, q.2.tr (b.wide (by omega) (by omega))⟩)) ?_
  refine r_aload_n (pc := 15) dX9_findBelow_15 rfl ?_
  refine r_getf (pc := 16) (k := 3) dX9_findBelow_16 hX9 eX9 (by decide) fX9_25 (fun _ q => q.1.o) rfl ?_
  refine r_aload_n (pc := 19) dX9_findBelow_19 rfl ?_
  refine r_getf (pc := 20) (k := 1) dX9_findBelow_20 hX9 eX9 (by decide) fX9_10 (fun _ q => q.1.o) rfl ?_
  refine r_Vi (pc := 23) (μ' := mX0_strips) dX9_findBelow_23 nX9_55 iX0_strips vX0_strips kX0_strips rfl rfl (rr (by omega) rfl) rfl ⟨Nat.zero_le _, Nat.zero_le _⟩ (fun g' q => ct_Ceil_strips (q.1.2.1 : CeilI _ _ _ _ _ _ _ _ _ _ _ _) q) ?_
  refine r_iconst (pc := 26) (v := (-1)) dX9_findBelow_26 (by decide) ?_
  refine r_Vv (pc := 27) (μ' := mX5_fill) dX9_findBelow_27 nX9_92 iX5_fill vX5_fill kX5_fill rfl rfl (rr (by omega) rfl) rfl ⟨Nat.zero_le _, Nat.zero_le _⟩ (fun g' q => ct_Row_fill (P' := fun g2 => ThK θ ε be K (List.replicate (kSt K) 0) (List.replicate (kSt K) (-1)) bs sb sw sx g2 ∧ Off θ 18 g g2) q.1.2.2.2.1 (fun g2 a b => ⟨q.1.set_pl (by rw [show clampI (nI K.2.1) 6 = kSt K from hcl] at a; exact a) b, q.2.tr (b.wide (by omega) (by omega))⟩)) ?_
  refine r_aload_n (pc := 30) dX9_findBelow_30 rfl ?_
  refine r_iload_n (pc := 31) dX9_findBelow_31 rfl ?_
  refine r_putf (pc := 32) (k := 8) (P' := fun g' => ThK θ ε (nI bd) K (List.replicate (kSt K) 0) (List.replicate (kSt K) (-1)) bs sb sw sx g' ∧ Off θ 18 g g') tyX9 dX9_findBelow_32 hX9 tyX9_ok nmX9 eX9 (by decide) fX9_40 rfl rfl (fun _ _ => rfl) (fun _ _ => rfl) (Nat.le_of_ble_eq_true rfl) (fun _ q => q.1.o) (fun _ q => ⟨q.1.putB, q.2.set (by omega) (by omega)⟩) ?_
  refine r_aload_n (pc := 35) dX9_findBelow_35 rfl ?_
  refine r_iconst (pc := 36) (v := 0) dX9_findBelow_36 (by decide) ?_
  refine r_iconst (pc := 37) (v := 0) dX9_findBelow_37 (by decide) ?_
  rw [← nI_0]
  refine r_Vv (pc := 38) (μ' := mX9_extendOrder) dX9_findBelow_38 nX9_112 iX9_extendOrder vX9_extendOrder kX9_extendOrder rfl rfl (rr (by omega) rfl) rfl ⟨Nat.zero_le _, Nat.zero_le _⟩ (fun g' q => ct_Th_extendOrder ok hw hw6 (kSt K) [] 0 0 (bd, bs) _ _ g' P' q.1 rfl (by omega) ⟨List.length_replicate, fun t ht => by rw [getD_in (by rw [List.length_replicate]; exact ht), List.getElem_replicate]; rfl⟩ ⟨List.length_replicate, rfl⟩ (by omega) hb (fun g2 sp2 a b c => hP g2 sp2 _ b (q.2.tr c))) ?_
  refine r_return (pc := 41) dX9_findBelow_41 rfl ⟨Nat.zero_le _, Nat.zero_le _⟩ (fun gE hg => ?_)
  exact ⟨rfl, hg⟩
end Tho4
