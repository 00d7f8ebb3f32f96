/-! rows in the shape in which the walks use them -/
def popn : Nat → List Value → List Value → List Value × List Value
  | 0, st, acc => (acc, st)
  | _ + 1, [], acc => (acc, [])
  | n + 1, v :: st, acc => popn n st (v :: acc)
theorem popn_ok : ∀ (n : Nat) (st acc as rest : List Value), popn n st acc = (as, rest) → ∃ bs, as = bs.reverse ++ acc ∧ st = bs ++ rest := by
  intro n
  induction n with
  | zero => intro st acc as rest h; cases h; exact ⟨[], rfl, rfl⟩
  | succ n ih =>
    intro st acc as rest h
    cases st with
    | nil => cases h; exact ⟨[], rfl, rfl⟩
    | cons v st =>
      obtain ⟨bs, h1, h2⟩ := ih st (v :: acc) as rest h
      exact ⟨v :: bs, by rw [h1]; simp, by rw [h2]; rfl⟩
theorem popn_st {n : Nat} {st as rest : List Value} (h : popn n st [] = (as, rest)) : st = as.reverse ++ rest := by
  obtain ⟨bs, h1, h2⟩ := popn_ok n st [] as rest h
  rw [h2, h1]; simp
def catS : List Value → Nat
  | [] => 0
  | .long _ :: l => 2 + catS l
  | .double _ :: l => 2 + catS l
  | _ :: l => 1 + catS l
theorem catS_ok : ∀ st : List Value, (st.map fun v => v.category).sum = catS st := by
  intro st
  induction st with
  | nil => rfl
  | cons v l ih =>
    rw [List.map_cons, List.sum_cons, ih]
    cases v <;> rfl
theorem CT.mono {d mc ms : Nat} {μ : MI} {as : List Value} {h : AH} {Q Q' : Option Value → AH → Prop} (hct : CT d mc ms μ as h Q) (hq : ∀ v g, Q v g → Q' v g) : CT d mc ms μ as h Q' := by
  intro l D b base X
  intro p e ha hc2 hk s m args below hf hfit hP hT
  obtain ⟨k, o, h1, h2, h3, h4⟩ := hct l D b base X p e ha hc2 hk s m args below hf hfit hP hT
  obtain ⟨⟨⟨v, h', e1, e2, e3⟩, e4⟩, e5⟩ := h4
  exact ⟨k, o, h1, h2, h3, ⟨⟨v, h', e1, hq v h' e2, e3⟩, e4⟩, e5⟩
theorem CV.mono {d mc ms a : Nat} {μ : MI} {as : List Value} {h : AH} {Q Q' : Option Value → AH → Prop} (hct : CV d mc ms μ a as h Q) (hq : ∀ v g, Q v g → Q' v g) : CV d mc ms μ a as h Q' := ⟨hct.1, hct.2.mono hq⟩
def Rr (R : Room) (d : Nat) (μ' : MI) : Prop := d + 1 ≤ R.frames ∧ 41 * d + μ'.2.2.1 + 19 ≤ R.locals
theorem rr {d d' mc ms : Nat} {μ' : MI} (h : d' < d) (h2 : Nat.ble μ'.2.2.1 22 = true) : Rr (rmd d mc ms) d' μ' := by
  have h2 := Nat.le_of_ble_eq_true h2
  exact ⟨h, by show 41 * d' + μ'.2.2.1 + 19 ≤ 41 * d; omega⟩
section RowsD
variable {XS : XT → Prop} {R : Room} {μ : MI} {kc ks pc : Nat} {ls : List (Option Value)} {st : List Value} {P P' : AH → Prop} {Q : Option Value → AH → Prop}
theorem r_iinc1 {i : Nat} {x : Int32} (hf : decode μ.2.1 pc = .ok (.iinc i 1, 3)) (hl : lget ls i = some (.int x)) (hn : i < μ.2.2.1) (hk : lok ls i = true) (kk : AW XS R μ kc ks (pc + 3) (lset ls i (.int (x + 1))) st P Q) : AW XS R μ kc ks pc ls st P Q := r_iinc hf hl rfl hn hk kk
theorem r_iincm {i : Nat} {x : Int32} (hf : decode μ.2.1 pc = .ok (.iinc i (-1), 3)) (hl : lget ls i = some (.int x)) (hn : i < μ.2.2.1) (hk : lok ls i = true) (kk : AW XS R μ kc ks (pc + 3) (lset ls i (.int (x - 1))) st P Q) : AW XS R μ kc ks pc ls st P Q := r_iinc hf hl (by rw [show Int32.ofInt (-1) = -1 from rfl, Int32.sub_eq_add_neg]) hn hk kk
theorem r_iinc6 {i : Nat} {x : Int32} (hf : decode μ.2.1 pc = .ok (.iinc i 6, 3)) (hl : lget ls i = some (.int x)) (hn : i < μ.2.2.1) (hk : lok ls i = true) (kk : AW XS R μ kc ks (pc + 3) (lset ls i (.int (x + 6))) st P Q) : AW XS R μ kc ks pc ls st P Q := r_iinc hf hl rfl hn hk kk
theorem i32_rem (x y : Int32) : x - x / y * y = x % y := by
  apply Int32.toInt_inj.mp
  rw [rem_toInt, Int32.toInt_mod]
theorem r_irem' {x y : Int32} (hf : decode μ.2.1 pc = .ok (.irem, 1)) (hne : ¬ y = 0) (kk : AW XS R μ kc ks (pc + 1) ls (.int (x % y) :: st) P Q) : AW XS R μ kc ks pc ls (.int y :: .int x :: st) P Q := r_irem hf hne (i32_rem x y) kk
theorem r_tableAt {dflt lo hi : Int} {offs : Array Int} {len : Nat} {x : Int32} {off : Int} (tgt j : Nat) (hf : decode μ.2.1 pc = .ok (.tableswitch dflt lo hi offs, len)) (hx : x.toInt = lo + j) (hj : lo + j ≤ hi) (ho : offs[j]? = some off) (ht : (pc : Int) + off = (tgt : Int)) (kk : AW XS R μ kc ks tgt ls st P Q) : AW XS R μ kc ks pc ls (.int x :: st) P Q :=
  r_tableIn tgt hf (by omega) (by omega) (by rw [show (x.toInt - lo).toNat = j by omega]; exact ho) ht kk
-- calls of what makes no cell; the answer is told, the heap behind is of P'
theorem r_Vi {idx n d a : Nat} {μ' : MI} {as rest : List Value} {x : Int32} (hf : decode μ.2.1 pc = .ok (.invokevirtual idx, 3)) (hl : Cond.methodLink μ.1.cls idx μ'.1 ∈ lw_g) (hs : Cond.instanceMethod μ'.1 ∈ lw_g) (hse : Cond.selects μ'.1.cls μ'.1 μ'.1 ∈ lw_g) (hk : Lk μ' n) (hp : popn n st [] = (as, .ref a :: rest)) (hn : as.length = n) (hR : Rr R d μ') (hW : Nat.ble (catS rest) 8 = true) (hm : kc ≤ R.cells ∧ ks ≤ R.slots)
    (hct : ∀ h, P h → CV d 0 0 μ' a as h (fun v g => v = some (.int x) ∧ P' g)) (kk : AW XS R μ kc ks (pc + 3) ls (.int x :: rest) P' Q) : AW XS R μ kc ks pc ls st P Q :=
  r_invV as rest hf hl hs hse hk hn (popn_st hp) hR (by rw [catS_ok]; exact Nat.le_of_ble_eq_true hW) hm hct (fun v => aw_pr fun e => by subst e; exact kk)
theorem r_Vr {idx n d a y : Nat} {μ' : MI} {as rest : List Value} (hf : decode μ.2.1 pc = .ok (.invokevirtual idx, 3)) (hl : Cond.methodLink μ.1.cls idx μ'.1 ∈ lw_g) (hs : Cond.instanceMethod μ'.1 ∈ lw_g) (hse : Cond.selects μ'.1.cls μ'.1 μ'.1 ∈ lw_g) (hk : Lk μ' n) (hp : popn n st [] = (as, .ref a :: rest)) (hn : as.length = n) (hR : Rr R d μ') (hW : Nat.ble (catS rest) 8 = true) (hm : kc ≤ R.cells ∧ ks ≤ R.slots)
    (hct : ∀ h, P h → CV d 0 0 μ' a as h (fun v g => v = some (.ref y) ∧ P' g)) (kk : AW XS R μ kc ks (pc + 3) ls (.ref y :: rest) P' Q) : AW XS R μ kc ks pc ls st P Q :=
  r_invV as rest hf hl hs hse hk hn (popn_st hp) hR (by rw [catS_ok]; exact Nat.le_of_ble_eq_true hW) hm hct (fun v => aw_pr fun e => by subst e; exact kk)
theorem r_VrN {idx n d a : Nat} {μ' : MI} {as rest : List Value} (hf : decode μ.2.1 pc = .ok (.invokevirtual idx, 3)) (hl : Cond.methodLink μ.1.cls idx μ'.1 ∈ lw_g) (hs : Cond.instanceMethod μ'.1 ∈ lw_g) (hse : Cond.selects μ'.1.cls μ'.1 μ'.1 ∈ lw_g) (hk : Lk μ' n) (hp : popn n st [] = (as, .ref a :: rest)) (hn : as.length = n) (hR : Rr R d μ') (hW : Nat.ble (catS rest) 8 = true) (hm : kc ≤ R.cells ∧ ks ≤ R.slots)
    (hct : ∀ h, P h → CV d 0 0 μ' a as h (fun v g => v = some .null ∧ P' g)) (kk : AW XS R μ kc ks (pc + 3) ls (.null :: rest) P' Q) : AW XS R μ kc ks pc ls st P Q :=
  r_invV as rest hf hl hs hse hk hn (popn_st hp) hR (by rw [catS_ok]; exact Nat.le_of_ble_eq_true hW) hm hct (fun v => aw_pr fun e => by subst e; exact kk)
theorem r_Vv {idx n d a : Nat} {μ' : MI} {as rest : List Value} (hf : decode μ.2.1 pc = .ok (.invokevirtual idx, 3)) (hl : Cond.methodLink μ.1.cls idx μ'.1 ∈ lw_g) (hs : Cond.instanceMethod μ'.1 ∈ lw_g) (hse : Cond.selects μ'.1.cls μ'.1 μ'.1 ∈ lw_g) (hk : Lk μ' n) (hp : popn n st [] = (as, .ref a :: rest)) (hn : as.length = n) (hR : Rr R d μ') (hW : Nat.ble (catS rest) 8 = true) (hm : kc ≤ R.cells ∧ ks ≤ R.slots)
    (hct : ∀ h, P h → CV d 0 0 μ' a as h (fun v g => v = none ∧ P' g)) (kk : AW XS R μ kc ks (pc + 3) ls rest P' Q) : AW XS R μ kc ks pc ls st P Q :=
  r_invV as rest hf hl hs hse hk hn (popn_st hp) hR (by rw [catS_ok]; exact Nat.le_of_ble_eq_true hW) hm hct (fun v => aw_pr fun e => by subst e; exact kk)
theorem r_Si {idx n d : Nat} {μ' : MI} {as rest : List Value} {x : Int32} (hf : decode μ.2.1 pc = .ok (.invokestatic idx, 3)) (hl : Cond.methodLink μ.1.cls idx μ'.1 ∈ lw_g) (hs : Cond.static μ'.1 ∈ lw_g) (hk : Lk μ' n) (hp : popn n st [] = (as, rest)) (hn : as.length = n) (hR : Rr R d μ') (hW : Nat.ble (catS rest) 8 = true) (hm : kc ≤ R.cells ∧ ks ≤ R.slots)
    (hct : ∀ h, P h → CT d 0 0 μ' as h (fun v g => v = some (.int x) ∧ P' g)) (kk : AW XS R μ kc ks (pc + 3) ls (.int x :: rest) P' Q) : AW XS R μ kc ks pc ls st P Q :=
  r_invS as rest hf hl hs hk hn (popn_st hp) hR (by rw [catS_ok]; exact Nat.le_of_ble_eq_true hW) hm hct (fun v => aw_pr fun e => by subst e; exact kk)
-- a static method whose answer is a number of its arguments alone
theorem r_Sp {idx n d : Nat} {μ' : MI} {as rest : List Value} {x : Int32} (hf : decode μ.2.1 pc = .ok (.invokestatic idx, 3)) (hl : Cond.methodLink μ.1.cls idx μ'.1 ∈ lw_g) (hs : Cond.static μ'.1 ∈ lw_g) (hk : Lk μ' n) (hp : popn n st [] = (as, rest)) (hn : as.length = n) (hR : Rr R d μ') (hW : Nat.ble (catS rest) 8 = true) (hm : kc ≤ R.cells ∧ ks ≤ R.slots)
    (hct : ∀ h, CT d 0 0 μ' as h (fun v g => v = some (.int x) ∧ g = h)) (kk : AW XS R μ kc ks (pc + 3) ls (.int x :: rest) P Q) : AW XS R μ kc ks pc ls st P Q :=
  r_Si hf hl hs hk hp hn hR hW hm (fun h hP => (hct h).mono fun v g q => ⟨q.1, by rw [q.2]; exact hP⟩) kk
end RowsD
def ldrop : List (Option Value) → Nat → List (Option Value)
  | [], _ => []
  | _ :: l, 0 => none :: l
  | w :: l, i + 1 => w :: ldrop l i
theorem ldrop_ok : ∀ {ls : List (Option Value)} {i j : Nat} {v : Value}, lget (ldrop ls i) j = some v → lget ls j = some v := by
  intro ls
  induction ls with
  | nil => intro i j v h; exact h
  | cons w l ih =>
    intro i j v h
    cases i with
    | zero =>
      cases j with
      | zero => cases h
      | succ j => exact h
    | succ i =>
      cases j with
      | zero => exact h
      | succ j => exact ih (i := i) (j := j) h
/-- a local is forgotten -/
theorem aw_dr {XS : XT → Prop} {R : Room} {μ : MI} {kc ks pc : Nat} {ls ls' : List (Option Value)} {st : List Value} {P : AH → Prop} {Q : Option Value → AH → Prop} (i : Nat) (e : ldrop ls i = ls') (kk : AW XS R μ kc ks pc ls' st P Q) : AW XS R μ kc ks pc ls st P Q :=
  aw_lk (fun j v h => by subst e; exact ldrop_ok h) kk
/-- a loop that goes up: at its head, with k of n rounds done -/
theorem up_loop {n : Nat} {G : Nat → Prop} (hn : G n) (hs : ∀ k, k < n → G (k + 1) → G k) : ∀ k, k ≤ n → G k := by
  intro k hk
  obtain ⟨j, hj⟩ : ∃ j, n - k = j := ⟨_, rfl⟩
  induction j generalizing k with
  | zero => rw [show k = n by omega]; exact hn
  | succ j ih => exact hs k (by omega) (ih (k + 1) (by omega) (by omega))
