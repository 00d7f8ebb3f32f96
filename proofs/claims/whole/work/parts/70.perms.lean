/-! ORDERS: the search with a bound finds the first of the least, in the order in which the reference goes through them -/
def extL (n : Nat) : Nat → List Nat → List (List Nat)
  | 0, A => [A]
  | f + 1, A => (List.range n).flatMap fun s => if s ∈ A then [] else extL n f (A ++ [s])
def allX (n : Nat) : List (List Nat) := extL n n []
def ptN (n : Nat) (w : Nat → Nat → Nat → Nat) (A : List Nat) : Nat := sumN (fun s => if s ∈ A ∧ s + 1 ∈ A then w s (A.idxOf s) (A.idxOf (s + 1)) else 0) (n - 1)
def pkO (V : List Nat → Nat) (b : Nat × List Int32) (o : List Nat) : Nat × List Int32 := if b.1 ≤ V o then b else (V o, o.map nI)
theorem exF_fold {β : Type} (f : Nat → β → β) (b : β) : ∀ n, exF f n b = (List.range n).foldl (fun b s => f s b) b
  | 0 => rfl
  | n + 1 => by rw [exF, exF_fold f b n, List.range_succ, List.foldl_append]; rfl
theorem foldl_flat {α β γ : Type} {f : β → α → β} {g : γ → List α} : ∀ (l : List γ) (b : β), (l.flatMap g).foldl f b = l.foldl (fun b a => (g a).foldl f b) b
  | [], b => rfl
  | a :: l, b => by rw [List.flatMap_cons, List.foldl_append, foldl_flat l]; rfl
theorem pk_stay {V : List Nat → Nat} {b : Nat × List Int32} : ∀ l : List (List Nat), (∀ o ∈ l, b.1 ≤ V o) → l.foldl (pkO V) b = b
  | [], _ => rfl
  | o :: l, h => by
    have h1 := h o List.mem_cons_self
    rw [List.foldl_cons, show pkO V b o = b from if_pos h1]
    exact pk_stay l fun x hx => h x (List.mem_cons_of_mem _ hx)
theorem sumN_ind {a x : Nat} {P : Prop} [Decidable P] : ∀ n, sumN (fun s => if s = a ∧ P then x else 0) n = if a < n ∧ P then x else 0
  | 0 => by rw [if_neg (fun h => absurd h.1 (Nat.not_lt_zero a))]; rfl
  | n + 1 => by
    rw [sumN, sumN_ind n]
    by_cases hP : P
    · by_cases e : a = n
      · subst e
        rw [if_neg (fun h => absurd h.1 (Nat.lt_irrefl a)), if_pos ⟨rfl, hP⟩, if_pos ⟨Nat.lt_succ_self a, hP⟩, Nat.zero_add]
      · rw [if_neg (fun h : n = a ∧ P => e h.1.symm)]
        by_cases l : a < n
        · rw [if_pos ⟨l, hP⟩, if_pos ⟨by omega, hP⟩, Nat.add_zero]
        · rw [if_neg (fun h => l h.1), if_neg (fun h => by omega)]
    · rw [if_neg (fun h => hP h.2), if_neg (fun h => hP h.2), if_neg (fun h => hP h.2)]
theorem ptN_put {n t : Nat} {w : Nat → Nat → Nat → Nat} {A : List Nat} (ht : t < n) (hA : ¬ t ∈ A) : ptN n w (A ++ [t]) = ptN n w A + besN n w (A ++ [t]) t := by
  have hm : ∀ s, s ∈ A ++ [t] ↔ s ∈ A ∨ s = t := fun s => by rw [List.mem_append, List.mem_singleton]
  have e1 : ptN n w (A ++ [t]) = sumN (fun s => ((if s ∈ A ∧ s + 1 ∈ A then w s (A.idxOf s) (A.idxOf (s + 1)) else 0) + (if s = t - 1 ∧ (1 ≤ t ∧ t - 1 ∈ A) then w (t - 1) ((A ++ [t]).idxOf (t - 1)) ((A ++ [t]).idxOf t) else 0)) + (if s = t ∧ t + 1 ∈ A then w t ((A ++ [t]).idxOf t) ((A ++ [t]).idxOf (t + 1)) else 0)) (n - 1) := by
    refine sumN_ext _ fun s hs => ?_
    by_cases c1 : s = t
    · subst c1
      rw [if_neg (fun h : s ∈ A ∧ s + 1 ∈ A => hA h.1), if_neg (fun h : s = s - 1 ∧ (1 ≤ s ∧ s - 1 ∈ A) => by omega), Nat.zero_add]
      by_cases c2 : s + 1 ∈ A
      · rw [if_pos ⟨(hm s).mpr (Or.inr rfl), (hm _).mpr (Or.inl c2)⟩, if_pos ⟨rfl, c2⟩]
      · rw [if_neg (fun h : s ∈ A ++ [s] ∧ s + 1 ∈ A ++ [s] => by
          rcases (hm _).mp h.2 with x | x
          · exact c2 x
          · omega), if_neg (fun h : s = s ∧ s + 1 ∈ A => c2 h.2)]
    · rw [if_neg (fun h : s = t ∧ t + 1 ∈ A => c1 h.1), Nat.add_zero]
      by_cases c3 : s = t - 1 ∧ (1 ≤ t ∧ t - 1 ∈ A)
      · rw [if_pos c3]
        have e : s + 1 = t := by omega
        rw [e]
        rw [if_neg (fun h : s ∈ A ∧ t ∈ A => hA h.2), Nat.zero_add, if_pos ⟨(hm s).mpr (Or.inl (by rw [c3.1]; exact c3.2.2)), (hm t).mpr (Or.inr rfl)⟩, c3.1, Nat.add_zero]
      · rw [if_neg c3, Nat.add_zero]
        by_cases c4 : s ∈ A ∧ s + 1 ∈ A
        · rw [if_pos c4, if_pos ⟨(hm s).mpr (Or.inl c4.1), (hm _).mpr (Or.inl c4.2)⟩, idx_app c4.1, idx_app c4.2]; rfl
        · rw [if_neg c4, if_neg (fun h : s ∈ A ++ [t] ∧ s + 1 ∈ A ++ [t] => by
            have h1 : s ∈ A := by
              rcases (hm _).mp h.1 with x | x
              · exact x
              · exact absurd x c1
            rcases (hm _).mp h.2 with x | x
            · exact c4 ⟨h1, x⟩
            · exact c3 ⟨by omega, by omega, by rw [show t - 1 = s by omega]; exact h1⟩)]
  rw [e1, sumN_2, sumN_2, sumN_ind, sumN_ind]
  show ptN n w A + _ + _ = _
  rw [Nat.add_assoc]
  congr 1
  unfold besN
  congr 1
  · by_cases c : 1 ≤ t ∧ t - 1 ∈ A
    · rw [if_pos ⟨by omega, c⟩, if_pos ⟨c.1, (hm _).mpr (Or.inl c.2)⟩]
    · rw [if_neg (fun h => c h.2), if_neg (fun h => c ⟨h.1, by
        rcases (hm _).mp h.2 with x | x
        · exact x
        · omega⟩)]
  · by_cases c : t + 1 < n ∧ t + 1 ∈ A
    · rw [if_pos ⟨by omega, c.2⟩, if_pos ⟨c.1, (hm _).mpr (Or.inl c.2)⟩]
    · rw [if_neg (fun h => c ⟨by omega, h.2⟩), if_neg (fun h => c ⟨h.1, by
        rcases (hm _).mp h.2 with x | x
        · exact x
        · omega⟩)]
theorem ext_le {n : Nat} {w : Nat → Nat → Nat → Nat} : ∀ f A o, o ∈ extL n f A → ptN n w A ≤ ptN n w o
  | 0, A, o, h => by
    rw [List.mem_singleton.mp h]
    exact Nat.le_refl _
  | f + 1, A, o, h => by
    obtain ⟨s, hs, ho⟩ := List.mem_flatMap.mp h
    by_cases c : s ∈ A
    · rw [if_pos c] at ho
      exact absurd ho List.not_mem_nil
    · rw [if_neg c] at ho
      have h1 := ext_le (w := w) f _ _ ho
      rw [ptN_put (List.mem_range.mp hs) c] at h1
      omega
theorem foldl_ext {α β : Type} {f g : β → α → β} : ∀ (l : List α) (b : β), (∀ a ∈ l, ∀ b, f b a = g b a) → l.foldl f b = l.foldl g b
  | [], _, _ => rfl
  | a :: l, b, h => by
    rw [List.foldl_cons, List.foldl_cons, h a List.mem_cons_self]
    exact foldl_ext l _ fun x hx => h x (List.mem_cons_of_mem _ hx)
theorem exN_fold {n : Nat} {w : Nat → Nat → Nat → Nat} : ∀ f A b, exN n w f A (ptN n w A) b = (extL n f A).foldl (pkO (ptN n w)) b
  | 0, A, b => rfl
  | f + 1, A, b => by
    unfold exN
    by_cases c : b.1 ≤ ptN n w A
    · rw [if_pos c, pk_stay _ fun o ho => Nat.le_trans c (ext_le _ _ _ ho)]
    · rw [if_neg c, exF_fold]
      show _ = ((List.range n).flatMap fun s => if s ∈ A then [] else extL n f (A ++ [s])).foldl (pkO (ptN n w)) b
      rw [foldl_flat]
      refine foldl_ext _ _ fun s hs b2 => ?_
      by_cases d : s ∈ A
      · rw [if_pos d, if_pos d]; rfl
      · rw [if_neg d, if_neg d, ← ptN_put (List.mem_range.mp hs) d, exN_fold f]
theorem ptN_nil {n : Nat} {w : Nat → Nat → Nat → Nat} : ptN n w [] = 0 := by
  unfold ptN
  rw [sumN_ext (g := fun _ => 0) _ (fun s hs => if_neg (fun h => absurd h.1 List.not_mem_nil))]
  exact sumN_0 _
theorem exN_all {n : Nat} {w : Nat → Nat → Nat → Nat} {b : Nat × List Int32} : exN n w n [] 0 b = (allX n).foldl (pkO (ptN n w)) b := by
  have := exN_fold (n := n) (w := w) n [] b
  rw [ptN_nil] at this
  exact this
/-- a row of all STRIPS, each once -/
def prB (n : Nat) (o : List Nat) : Bool := decide (o.length = n) && (List.range n).all (fun i => decide (o.getD i 0 < n) && (List.range i).all (fun j => decide (o.getD j 0 ≠ o.getD i 0)) && decide (o.idxOf i < n ∧ o.getD (o.idxOf i) 0 = i) && decide (i ∈ o))
theorem pr_all : ∀ n, n ≤ 6 → (allX n).all (prB n) = true := by decide +kernel
theorem prB_t {n : Nat} {o : List Nat} (h : prB n o = true) : o.length = n ∧ (∀ i, i < n → o.getD i 0 < n) ∧ (∀ i j, i < j → j < n → o.getD i 0 ≠ o.getD j 0) ∧ (∀ s, s < n → o.idxOf s < n ∧ o.getD (o.idxOf s) 0 = s) ∧ ∀ s, s < n → s ∈ o := by
  obtain ⟨h1, h2⟩ := Bool.and_eq_true_iff.mp h
  have h3 := List.all_eq_true.mp h2
  have g : ∀ i, i < n → _ := fun i hi => h3 i (List.mem_range.mpr hi)
  refine ⟨of_decide_eq_true h1, fun i hi => ?_, fun i j hi hj => ?_, fun s hs => ?_, fun s hs => ?_⟩
  · exact of_decide_eq_true (Bool.and_eq_true_iff.mp (Bool.and_eq_true_iff.mp (Bool.and_eq_true_iff.mp (g i hi)).1).1).1
  · exact of_decide_eq_true (List.all_eq_true.mp (Bool.and_eq_true_iff.mp (Bool.and_eq_true_iff.mp (Bool.and_eq_true_iff.mp (g j hj)).1).1).2 i (List.mem_range.mpr hi))
  · exact of_decide_eq_true (Bool.and_eq_true_iff.mp (Bool.and_eq_true_iff.mp (g s hs)).1).2
  · exact of_decide_eq_true (Bool.and_eq_true_iff.mp (g s hs)).2
theorem ptN_full {n : Nat} {w : Nat → Nat → Nat → Nat} {o : List Nat} (h : ∀ s, s < n → s ∈ o) : ptN n w o = sumN (fun s => w s (o.idxOf s) (o.idxOf (s + 1))) (n - 1) :=
  sumN_ext _ fun s hs => if_pos ⟨h s (by omega), h (s + 1) (by omega)⟩
-- the next row, as the reference goes on
def fkN (o : List Nat) : Nat → Nat
  | 0 => 0
  | k + 1 => if o.getD (k + 1) 0 < o.getD k 0 then fkN o k else k + 1
def gjN (o : List Nat) (x : Nat) : Nat → Nat
  | 0 => 0
  | j + 1 => if o.getD (j + 1) 0 < x then gjN o x j else j + 1
def swN (o : List Nat) (a b : Nat) : List Nat := (o.set a (o.getD b 0)).set b (o.getD a 0)
def rvN : Nat → List Nat → Nat → Nat → List Nat
  | 0, o, _, _ => o
  | f + 1, o, a, b => if a < b then rvN f (swN o a b) (a + 1) (b - 1) else o
def nxN (n : Nat) (o : List Nat) : Option (List Nat) := if fkN o (n - 1) = 0 then none else some (rvN 6 (swN o (fkN o (n - 1) - 1) (gjN o (o.getD (fkN o (n - 1) - 1) 0) (n - 1))) (fkN o (n - 1)) (n - 1))
def gjOk (n : Nat) (o : List Nat) : Bool := decide (fkN o (n - 1) = 0) || decide (o.getD (fkN o (n - 1) - 1) 0 ≤ o.getD (gjN o (o.getD (fkN o (n - 1) - 1) 0) (n - 1)) 0)
def chB (n : Nat) : List (List Nat) → Bool
  | [] => false
  | [o] => decide (nxN n o = none)
  | o :: p :: l => decide (nxN n o = some p) && chB n (p :: l)
theorem ch_all : ∀ n, n < 6 → chB (n + 1) (allX (n + 1)) = true ∧ (allX (n + 1)).head? = some (List.range (n + 1)) ∧ (allX (n + 1)).all (gjOk (n + 1)) = true := by decide +kernel
