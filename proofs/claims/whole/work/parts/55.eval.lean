/-! THE REFERENCE reads a TEXT and works it out at once: the same places, and what the steps give -/
theorem runS_app {a b c : Int32} : ∀ (l1 l2 stk : List Int32), runS a b c (l1 ++ l2) stk = (runS a b c l1 stk).bind (runS a b c l2)
  | [], l2, stk => rfl
  | x :: l1, l2, stk => by
    show runS a b c (x :: (l1 ++ l2)) stk = _
    unfold runS
    cases e : stepS a b c x stk with
    | none => rfl
    | some k => exact runS_app l1 l2 k
def EvR (a b c : Int32) (σ τ : RS) (x : Int32) : Prop := τ.2.1 = true → ∃ e, τ.2.2 = σ.2.2 ++ e ∧ ∀ stk, runS a b c e stk = some (x :: stk)
def EvC (a b c : Int32) (σ τ : RS) (x y : Int32) : Prop := τ.2.1 = true → ∃ e, τ.2.2 = σ.2.2 ++ e ∧ ∀ stk, runS a b c e (x :: stk) = some (y :: stk)
def opsL : List Int32 := [124, 38, 43, 45, 42, 47, 37, 60, 61, 62]
theorem stepS_op {a b c s x y : Int32} {stk : List Int32} (h : s ∈ opsL) : stepS a b c (20000 + s) (y :: x :: stk) = some (joinI s x y :: stk) := by
  have e1 : ∀ s, s ∈ opsL → ¬ (20000 + s : Int32) < 10000 ∧ ¬ (20000 + s : Int32) < 20000 ∧ ¬ (20000 + s : Int32) = 20033 ∧ 20000 + s - 20000 = s := by decide +kernel
  obtain ⟨h1, h2, h3, h4⟩ := e1 s h
  unfold stepS
  rw [if_neg h1, if_neg h2, if_neg h3]
  show some (joinI (20000 + s - 20000) x y :: stk) = _
  rw [h4]
theorem addL_ok {l : List Int32} {x : Int32} (h : l.length < 50) : addL 50 l x = l ++ [x] := if_pos h
theorem addL_le {l : List Int32} {x : Int32} : (addL 50 l x).length ≤ l.length + 1 := by
  unfold addL
  split
  · rw [List.length_append, List.length_singleton]; exact Nat.le_refl _
  · omega
theorem EvR.op {a b c s x w : Int32} {σ τ : RS} (h : s ∈ opsL) (hl : τ.2.2.length < 50) (hw : EvR a b c σ τ w) : EvC a b c σ (emB s τ) x (joinI s x w) := by
  intro hg
  obtain ⟨e, he, hr⟩ := hw hg
  refine ⟨e ++ [20000 + s], ?_, fun stk => ?_⟩
  · show addL 50 τ.2.2 (20000 + s) = _
    rw [addL_ok hl, he, List.append_assoc]
  · rw [runS_app, hr]
    show runS a b c [20000 + s] (w :: x :: stk) = _
    unfold runS
    rw [stepS_op h]
    rfl
theorem EvC.tr {a b c x y z : Int32} {σ τ ρ : RS} (hg : ρ.2.1 = true → τ.2.1 = true) (h1 : EvC a b c σ τ x y) (h2 : EvC a b c τ ρ y z) : EvC a b c σ ρ x z := by
  intro g
  obtain ⟨e, he, hr⟩ := h1 (hg g)
  obtain ⟨e2, he2, hr2⟩ := h2 g
  refine ⟨e ++ e2, by rw [he2, he, List.append_assoc], fun stk => ?_⟩
  rw [runS_app, hr]
  exact hr2 stk
theorem EvR.C {a b c x y : Int32} {σ τ ρ : RS} (hg : ρ.2.1 = true → τ.2.1 = true) (h1 : EvR a b c σ τ x) (h2 : EvC a b c τ ρ x y) : EvR a b c σ ρ y := by
  intro g
  obtain ⟨e, he, hr⟩ := h1 (hg g)
  obtain ⟨e2, he2, hr2⟩ := h2 g
  refine ⟨e ++ e2, by rw [he2, he, List.append_assoc], fun stk => ?_⟩
  rw [runS_app, hr]
  exact hr2 stk
theorem EvC.rf {a b c x : Int32} {σ : RS} : EvC a b c σ σ x x := fun _ => ⟨[], (List.append_nil _).symm, fun _ => rfl⟩
/-- a reading step goes on, within the tape, and never emits more than it reads -/
def PF (bs : List Int32) (f : RS → RS) : Prop := ∀ σ, σ.1 ≤ bs.length → σ.2.1 = true → (f σ).1 ≤ bs.length ∧ σ.1 ≤ (f σ).1 ∧ ∀ k, σ.2.2.length + k ≤ σ.1 → (f σ).2.2.length + k ≤ (f σ).1
theorem nx_in {bs : List Int32} {σ : RS} {l : List Int32} (h : nxB bs σ ∈ l) (hl : ¬ (-1 : Int32) ∈ l) : σ.1 < bs.length := by
  refine Decidable.byContradiction fun x => hl ?_
  unfold nxB at h
  rw [if_neg x] at h
  exact h
theorem chain_bad {bs ops : List Int32} {el : RS → RS} {σ : RS} (h : σ.2.1 = false) : ∀ n, chainB bs ops el n σ = σ
  | 0 => rfl
  | n + 1 => by
    unfold chainB
    rw [if_neg (fun x => by rw [h] at x; exact absurd x.1 Bool.false_ne_true)]
theorem chain_g {bs ops : List Int32} {el : RS → RS} {σ : RS} {n : Nat} (h : (chainB bs ops el n σ).2.1 = true) : σ.2.1 = true := by
  cases e : σ.2.1 with
  | true => rfl
  | false => rw [chain_bad e, e] at h; exact h
theorem PF.chain {bs ops : List Int32} {el : RS → RS} (hp : PF bs el) (hm : ¬ (-1 : Int32) ∈ ops) : ∀ n σ, σ.1 ≤ bs.length → (chainB bs ops el n σ).1 ≤ bs.length ∧ σ.1 ≤ (chainB bs ops el n σ).1 ∧ ∀ k, σ.2.2.length + k ≤ σ.1 → (chainB bs ops el n σ).2.2.length + k ≤ (chainB bs ops el n σ).1
  | 0, σ, h => ⟨h, Nat.le_refl _, fun k q => q⟩
  | n + 1, σ, h => by
    unfold chainB
    split
    · rename_i c
      have hlt := nx_in c.2 hm
      obtain ⟨a1, a2, a3⟩ := hp (adB σ) hlt c.1
      obtain ⟨b1, b2, b3⟩ := PF.chain hp hm n (emB (nxB bs σ) (el (adB σ))) a1
      have a2 : σ.1 + 1 ≤ (el (adB σ)).1 := a2
      have b2 : (el (adB σ)).1 ≤ _ := b2
      refine ⟨b1, by omega, fun k hk => b3 k ?_⟩
      have := a3 (k + 1) (by show σ.2.2.length + (k + 1) ≤ σ.1 + 1; omega)
      have h2 : (emB (nxB bs σ) (el (adB σ))).2.2.length ≤ (el (adB σ)).2.2.length + 1 := addL_le
      show (emB (nxB bs σ) (el (adB σ))).2.2.length + k ≤ (el (adB σ)).1
      omega
    · exact ⟨h, Nat.le_refl _, fun k q => q⟩
theorem PF.loop {bs ops : List Int32} {el : RS → RS} (hp : PF bs el) (hm : ¬ (-1 : Int32) ∈ ops) : PF bs (loopB bs ops el) := by
  intro σ h hg
  obtain ⟨a1, a2, a3⟩ := hp σ h hg
  obtain ⟨b1, b2, b3⟩ := PF.chain hp hm 50 (el σ) a1
  exact ⟨b1, Nat.le_trans a2 b2, fun k hk => b3 k (a3 k hk)⟩
theorem PF.cmp {bs : List Int32} {el : RS → RS} (hp : PF bs el) : PF bs (cmpB bs el) := by
  intro σ h hg
  obtain ⟨a1, a2, a3⟩ := hp σ h hg
  unfold cmpB
  split
  · rename_i c
    have hlt := nx_in c.2 (by decide)
    obtain ⟨b1, b2, b3⟩ := hp (adB (el σ)) hlt c.1
    have b2 : (el σ).1 + 1 ≤ (el (adB (el σ))).1 := b2
    refine ⟨b1, by show σ.1 ≤ (el (adB (el σ))).1; omega, fun k hk => ?_⟩
    have h1 := a3 k hk
    have := b3 (k + 1) (by show (el σ).2.2.length + (k + 1) ≤ (el σ).1 + 1; omega)
    have h2 : (emB (nxB bs (el σ)) (el (adB (el σ)))).2.2.length ≤ (el (adB (el σ))).2.2.length + 1 := addL_le
    show (emB (nxB bs (el σ)) (el (adB (el σ)))).2.2.length + k ≤ (el (adB (el σ))).1
    omega
  · exact ⟨a1, a2, a3⟩
theorem PF.all {bs : List Int32} {q : RS → RS} (hp : PF bs q) : PF bs (allB bs q) := ((((hp.loop (by decide)).loop (by decide)).cmp).loop (by decide)).loop (by decide)
-- numbers
def numE (bs : List Int32) : Nat → Int32 → RS → RS × Int32
  | 0, v, σ => (σ, v)
  | n + 1, v, σ => if digB (nxB bs σ) = true then numE bs n (v * 10 + nxB bs σ - 48) (adB σ) else (σ, v)
theorem numB_eq {bs : List Int32} : ∀ n v σ, numB bs n v σ = psB (numE bs n v σ).2 (numE bs n v σ).1
  | 0, v, σ => rfl
  | n + 1, v, σ => by
    unfold numB numE
    split
    · exact numB_eq n _ _
    · rfl
theorem digB_t {c : Int32} (h : digB c = true) : 48 ≤ c.toInt ∧ c.toInt ≤ 57 := of_decide_eq_true h
theorem num_step {v d : Int32} (h0 : 0 ≤ v.toInt) (h1 : v.toInt < 1000) (hd : digB d = true) : (v * 10 + d - 48).toInt = v.toInt * 10 + (d.toInt - 48) := by
  have := digB_t hd
  have e1 : (v * 10).toInt = v.toInt * 10 := by
    rw [Int32.toInt_mul, show (10 : Int32).toInt = 10 from rfl]
    exact Int.bmod_eq_of_le (by omega) (by omega)
  have e2 : (v * 10 + d).toInt = v.toInt * 10 + d.toInt := by
    rw [Int32.toInt_add, e1]
    exact Int.bmod_eq_of_le (by omega) (by omega)
  rw [Int32.toInt_sub, e2, show (48 : Int32).toInt = 48 from rfl, Int.bmod_eq_of_le (by omega) (by omega)]
  omega
theorem p10a : ∀ k, k < 5 → (10 : Int) ^ k ≤ 10000 := by decide
theorem p10b : ∀ k, k < 4 → (10 : Int) ^ k ≤ 1000 := by decide
theorem numE_rng {bs : List Int32} : ∀ n k v σ, n + k ≤ 4 → 0 ≤ v.toInt → v.toInt < 10 ^ k → 0 ≤ (numE bs n v σ).2.toInt ∧ (numE bs n v σ).2.toInt < 10000
  | 0, k, v, σ, h, h0, h1 => by
    have := p10a k (by omega)
    show 0 ≤ v.toInt ∧ v.toInt < 10000
    omega
  | n + 1, k, v, σ, h, h0, h1 => by
    have hk := p10b k (by omega)
    unfold numE
    split
    · rename_i c
      have e := num_step h0 (by omega) c
      have := digB_t c
      have hp : (10 : Int) ^ (k + 1) = 10 ^ k * 10 := Int.pow_succ 10 k
      exact numE_rng n (k + 1) _ _ (by omega) (by rw [e]; omega) (by rw [e]; omega)
    · show 0 ≤ v.toInt ∧ v.toInt < 10000
      omega
theorem dig_nx {bs : List Int32} {σ : RS} (h : digB (nxB bs σ) = true) : σ.1 < bs.length := by
  refine Decidable.byContradiction fun x => ?_
  unfold nxB at h
  rw [if_neg x] at h
  exact absurd h (by decide)
theorem numE_p {bs : List Int32} : ∀ n v σ, σ.1 ≤ bs.length → (numE bs n v σ).1.1 ≤ bs.length ∧ σ.1 ≤ (numE bs n v σ).1.1 ∧ (numE bs n v σ).1.2 = σ.2
  | 0, v, σ, h => ⟨h, Nat.le_refl _, rfl⟩
  | n + 1, v, σ, h => by
    unfold numE
    split
    · rename_i c
      obtain ⟨a, b, d⟩ := numE_p (bs := bs) n (v * 10 + nxB bs σ - 48) (adB σ) (dig_nx c)
      have b : σ.1 + 1 ≤ _ := b
      exact ⟨a, by omega, d⟩
    · exact ⟨h, Nat.le_refl _, rfl⟩
theorem numE_p1 {bs : List Int32} {n : Nat} {v : Int32} {σ : RS} (h : σ.1 ≤ bs.length) (hd : digB (nxB bs σ) = true) : σ.1 + 1 ≤ (numE bs (n + 1) v σ).1.1 := by
  unfold numE
  rw [if_pos hd]
  exact (numE_p (bs := bs) n (v * 10 + nxB bs σ - 48) (adB σ) (dig_nx hd)).2.1
theorem name_nx {bs : List Int32} {σ : RS} {use : Int32} (h : 0 ≤ nameI use (nxB bs σ)) : σ.1 < bs.length := by
  refine Decidable.byContradiction fun x => ?_
  unfold nxB at h
  rw [if_neg x] at h
  unfold nameI at h
  rw [if_neg (by decide), if_neg (by decide), if_neg (by split <;> decide)] at h
  exact absurd h (by decide)
theorem PF_ps {bs : List Int32} {x : Int32} {σ τ : RS} (h1 : τ.1 ≤ bs.length) (h2 : σ.1 + 1 ≤ τ.1) (h3 : τ.2.2 = σ.2.2) : (psB x τ).1 ≤ bs.length ∧ σ.1 ≤ (psB x τ).1 ∧ ∀ k, σ.2.2.length + k ≤ σ.1 → (psB x τ).2.2.length + k ≤ (psB x τ).1 := by
  refine ⟨h1, by show σ.1 ≤ τ.1; omega, fun k hk => ?_⟩
  have : (psB x τ).2.2.length ≤ τ.2.2.length + 1 := addL_le
  rw [h3] at this
  show (psB x τ).2.2.length + k ≤ τ.1
  omega
theorem PF.fac {use : Int32} {bs : List Int32} : ∀ d, PF bs (facB use bs d)
  | 0 => by
    intro σ h hg
    unfold facB
    rw [if_neg (by rw [hg]; exact fun x => absurd x (by decide))]
    split
    · rename_i c
      rw [numB_eq]
      obtain ⟨a, b, e⟩ := numE_p (bs := bs) 4 0 σ h
      exact PF_ps a (numE_p1 h c) (by rw [e])
    · split
      · rename_i c
        exact PF_ps (τ := adB σ) (name_nx c) (Nat.le_refl _) rfl
      · exact ⟨h, Nat.le_refl _, fun k q => q⟩
  | d + 1 => by
    intro σ h hg
    unfold facB
    rw [if_neg (by rw [hg]; exact fun x => absurd x (by decide))]
    split
    · rename_i c
      rw [numB_eq]
      obtain ⟨a, b, e⟩ := numE_p (bs := bs) 4 0 σ h
      exact PF_ps a (numE_p1 h c) (by rw [e])
    · split
      · rename_i c
        exact PF_ps (τ := adB σ) (name_nx c) (Nat.le_refl _) rfl
      · split
        · rename_i c
          have hlt : σ.1 < bs.length := nx_in (l := [33]) (by rw [c]; exact List.mem_singleton.mpr rfl) (by decide)
          obtain ⟨a1, a2, a3⟩ := PF.fac (use := use) (bs := bs) d (adB σ) hlt hg
          have a2 : σ.1 + 1 ≤ (facB use bs d (adB σ)).1 := a2
          refine ⟨a1, by show σ.1 ≤ (facB use bs d (adB σ)).1; omega, fun k hk => ?_⟩
          have := a3 (k + 1) (by show σ.2.2.length + (k + 1) ≤ σ.1 + 1; omega)
          have h2 : (emB 33 (facB use bs d (adB σ))).2.2.length ≤ (facB use bs d (adB σ)).2.2.length + 1 := addL_le
          show (emB 33 (facB use bs d (adB σ))).2.2.length + k ≤ (facB use bs d (adB σ)).1
          omega
        · split
          · rename_i c
            have hlt : σ.1 < bs.length := nx_in (l := [40]) (by rw [c]; exact List.mem_singleton.mpr rfl) (by decide)
            obtain ⟨a1, a2, a3⟩ := (PF.fac (use := use) (bs := bs) d).all (adB σ) hlt hg
            have a2 : σ.1 + 1 ≤ (allB bs (facB use bs d) (adB σ)).1 := a2
            have a4 : ∀ k, σ.2.2.length + k ≤ σ.1 → (allB bs (facB use bs d) (adB σ)).2.2.length + (k + 1) ≤ (allB bs (facB use bs d) (adB σ)).1 := fun k hk => a3 (k + 1) (by show σ.2.2.length + (k + 1) ≤ σ.1 + 1; omega)
            split
            · rename_i c2
              have hlt2 : (allB bs (facB use bs d) (adB σ)).1 < bs.length := nx_in (l := [41]) (by rw [(isB_op c2).2]; exact List.mem_singleton.mpr rfl) (by decide)
              refine ⟨hlt2, by show σ.1 ≤ (allB bs (facB use bs d) (adB σ)).1 + 1; omega, fun k hk => ?_⟩
              have := a4 k hk
              show (allB bs (facB use bs d) (adB σ)).2.2.length + k ≤ (allB bs (facB use bs d) (adB σ)).1 + 1
              omega
            · refine ⟨a1, by show σ.1 ≤ (allB bs (facB use bs d) (adB σ)).1; omega, fun k hk => ?_⟩
              have := a4 k hk
              show (allB bs (facB use bs d) (adB σ)).2.2.length + k ≤ (allB bs (facB use bs d) (adB σ)).1
              omega
          · exact ⟨h, Nat.le_refl _, fun k q => q⟩
