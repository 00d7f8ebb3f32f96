/-! THE WHOLE (OneGoCeiling): an order told -/
theorem tkO_inv {l : List Int32} {n : Nat} (hn : n ≤ 6) : ∀ k, k ≤ n → ∀ pl, tkO l n k = some pl → pl.length = n ∧ (∀ s, s < n → pl.getD s 0 = -1 ∨ ∃ j, j < k ∧ pl.getD s 0 = nI j) ∧ pl.count (-1) + k = n := by
  intro k
  induction k with
  | zero =>
    intro _ pl h
    obtain rfl := Option.some.inj h
    refine ⟨List.length_replicate, fun s hs => Or.inl (by rw [getD_in (by rw [List.length_replicate]; exact hs), List.getElem_replicate]), ?_⟩
    rw [List.count_replicate_self]; rfl
  | succ k ih =>
    intro hk pl h
    rw [tkO] at h
    cases e : tkO l n k with
    | none => rw [e] at h; exact absurd h (by simp)
    | some p0 =>
      rw [e] at h
      dsimp only at h
      by_cases c : hasL p0 (atL l (nI k)) = true ∧ atL p0 (atL l (nI k)) = -1
      · rw [if_pos c] at h
        obtain ⟨a1, a2, a3⟩ := ih (by omega) p0 e
        obtain ⟨c1, c2⟩ := c
        have c1 := of_decide_eq_true c1
        obtain ⟨x, hx⟩ : ∃ x, x = (atL l (nI k)).toInt.toNat := ⟨_, rfl⟩
        have hx2 : x < p0.length := by omega
        have hv : p0.getD x 0 = -1 := by
          have r : atL p0 (atL l (nI k)) = p0.getD (atL l (nI k)).toInt.toNat 0 := if_pos c1.1
          rw [hx, ← r]; exact c2
        have hpl : pl = p0.set x (nI k) := by
          have := Option.some.inj h
          unfold wrL at this
          rw [if_pos c1.1, ← hx] at this
          exact this.symm
        subst hpl
        refine ⟨by rw [List.length_set]; exact a1, fun s hs => ?_, ?_⟩
        · rw [getD_set hx2]
          by_cases es : s = x
          · rw [if_pos es]; exact Or.inr ⟨k, by omega, rfl⟩
          · rw [if_neg es]
            rcases a2 s hs with q | ⟨j, hj, q⟩
            · exact Or.inl q
            · exact Or.inr ⟨j, by omega, q⟩
        · rw [getD_in hx2] at hv
          have hne : ¬ nI k = (-1 : Int32) := m1_ne (by omega)
          rw [List.count_set hx2]
          have hpos : 0 < p0.count (-1) := List.count_pos_iff.mpr (by rw [← hv]; exact List.getElem_mem hx2)
          rw [if_pos (by rw [hv]; rfl), if_neg (by simpa using hne)]
          omega
      · rw [if_neg c] at h; exact absurd h (by simp)
theorem tkO_full {l pl : List Int32} {n : Nat} (hn : n ≤ 6) (h : tkO l n n = some pl) : ∀ s, s < n → pl.getD s 0 = nI (pl.getD s 0).toInt.toNat ∧ (pl.getD s 0).toInt.toNat ≤ 6 := by
  intro s hs
  obtain ⟨a1, a2, a3⟩ := tkO_inv hn n (Nat.le_refl _) pl h
  have h0 : pl.count (-1) = 0 := by omega
  rcases a2 s hs with q | ⟨j, hj, q⟩
  · rw [getD_in (by omega)] at q
    have hp : 0 < pl.count (-1) := List.count_pos_iff.mpr (by rw [← q]; exact List.getElem_mem (by omega))
    omega
  · rw [q, nI_T (by omega), Int.toNat_natCast]
    exact ⟨rfl, by omega⟩
/-- where STRIPS stand in an order told -/
def plN (pl : List Int32) : Nat → Nat := fun s => (pl.getD s 0).toInt.toNat
def shB (b : Int32) : Bool := decide (0 ≤ b.toInt ∧ b.toInt < 4)
