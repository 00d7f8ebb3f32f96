/-! THE REFERENCE (OneGoCeilingModel): one object at m, its arrays at m + 1 .. m + 14; numbers s by field, arrays A -/
def mF (m : Nat) (s : Nat → Int32) : List Value := [.ref (m + 1), .ref (m + 2), .ref (m + 3), .ref (m + 4), .int (s 4), .int (s 5), .ref (m + 5), .ref (m + 6), .ref (m + 7), .int (s 9), .int (s 10), .int (s 11), .int (s 12), .int (s 13), .int (s 14), .int (s 15), .int (s 16), .int (s 17), .int (s 18), .ref (m + 8), .ref (m + 9), .ref (m + 10), .ref (m + 11), .ref (m + 12), .ref (m + 13), .ref (m + 14), .int (s 26), .int (s 27), .int (s 28), .int (s 29)]
def mL : Nat → Nat
  | 4 => 6
  | 5 => 36
  | 6 => 3600
  | 7 => 4
  | 8 => 4
  | 9 => 160
  | 10 => 40
  | 11 => 6
  | 12 => 6
  | 13 => 40
  | _ => 267
def mh (m : Nat) (h : AH) (s : Nat → Int32) (A : Nat → Nat → Int32) : AH := (h.1, fun j => if j = m then .inr (.inr (11, mF m s)) else if m < j ∧ j ≤ m + 14 then .inl (mL (j - m - 1), A (j - m - 1)) else h.2 j)
def MP (m : Nat) (h : AH) (s : Nat → Int32) (A : Nat → Nat → Int32) (g : AH) : Prop := g = mh m h s A
def upA (A : Nat → Nat → Int32) (i : Nat) (f : Nat → Int32) : Nat → Nat → Int32 := fun k => if k = i then f else A k
theorem upd_s {f : Nat → Int32} {k : Nat} {x : Int32} : upd f k x k = x := if_pos rfl
theorem upd_n {f : Nat → Int32} {k j : Nat} {x : Int32} (h : j ≠ k) : upd f k x j = f j := if_neg h
theorem upA_s {A : Nat → Nat → Int32} {i : Nat} {f : Nat → Int32} : upA A i f i = f := if_pos rfl
theorem upA_n {A : Nat → Nat → Int32} {i k : Nat} {f : Nat → Int32} (h : k ≠ i) : upA A i f k = A k := if_neg h
theorem upA_2 {A : Nat → Nat → Int32} {i : Nat} {f f2 : Nat → Int32} : upA (upA A i f) i f2 = upA A i f2 := by
  funext k
  unfold upA
  split <;> rfl
theorem upA_id {A : Nat → Nat → Int32} {i : Nat} : upA A i (A i) = A := by
  funext k
  unfold upA
  split
  · rename_i e; rw [e]
  · rfl
section Mo
variable {m : Nat} {h g : AH} {s : Nat → Int32} {A : Nat → Nat → Int32}
theorem mo (hm : m + 14 < h.1) (q : MP m h s A g) : m < g.1 ∧ g.2 m = .inr (.inr (11, mF m s)) := by
  subst q
  exact ⟨by show m < h.1; omega, if_pos rfl⟩
theorem ma (i : Nat) (hi : i < 14) (hm : m + 14 < h.1) (q : MP m h s A g) : m + (i + 1) < g.1 ∧ g.2 (m + (i + 1)) = .inl (mL i, A i) := by
  subst q
  refine ⟨by show m + (i + 1) < h.1; omega, ?_⟩
  show (if m + (i + 1) = m then _ else if m < m + (i + 1) ∧ m + (i + 1) ≤ m + 14 then _ else _) = _
  rw [if_neg (by omega), if_pos (by omega), show m + (i + 1) - m - 1 = i by omega]
theorem mset {k : Nat} {x : Int32} (he : (mF m s).set k (.int x) = mF m (upd s k x)) : hset (mh m h s A) m (.inr (.inr (11, (mF m s).set k (.int x)))) = mh m h (upd s k x) A := by
  rw [he]
  refine Prod.ext rfl (funext fun j => ?_)
  show (if j = m then _ else if j = m then _ else _) = (if j = m then _ else _)
  by_cases e : j = m
  · rw [if_pos e, if_pos e]
  · rw [if_neg e, if_neg e, if_neg e]
theorem maset {i : Nat} {f : Nat → Int32} (hi : i < 14) : hset (mh m h s A) (m + (i + 1)) (.inl (mL i, f)) = mh m h s (upA A i f) := by
  refine Prod.ext rfl (funext fun j => ?_)
  show (if j = m + (i + 1) then _ else if j = m then _ else if m < j ∧ j ≤ m + 14 then _ else _) = (if j = m then _ else if m < j ∧ j ≤ m + 14 then _ else _)
  by_cases e : j = m + (i + 1)
  · rw [if_pos e, if_neg (by omega), if_pos (by omega), show j - m - 1 = i by omega]
    unfold upA
    rw [if_pos rfl]
  · rw [if_neg e]
    by_cases e2 : j = m
    · rw [if_pos e2, if_pos e2]
    · rw [if_neg e2, if_neg e2]
      by_cases e3 : m < j ∧ j ≤ m + 14
      · rw [if_pos e3, if_pos e3]
        unfold upA
        rw [if_neg (by omega)]
      · rw [if_neg e3, if_neg e3]
theorem mq {F : AH → Prop} (q : MP m h s A g) (t : F (mh m h s A)) : F g := by
  subst q
  exact t
theorem cvq {g : AH} {d a : Nat} {μ : MI} {as : List Value} {Q : Option Value → AH → Prop} (q : MP m h s A g) (t : CV d 0 0 μ a as (mh m h s A) Q) : CV d 0 0 μ a as g Q := by
  subst q
  exact t
theorem mV (hm : m + 14 < h.1) : ∃ (fs : List Value) (T : u_T) (N : Nat), m < (mh m h s A).1 ∧ (mh m h s A).2 m = .inr (.inr (11, fs)) ∧ vwCl[11]? = some (RX12, T, N) := ⟨_, _, _, by show m < h.1; omega, if_pos rfl, rfl⟩
end Mo
section Mr
variable {XS : XT → Prop} {R : Room} {μ : MI} {kc ks pc : Nat} {ls : List (Option Value)} {st : List Value} {Q : Option Value → AH → Prop} {m : Nat} {h : AH} {s : Nat → Int32} {A : Nat → Nat → Int32}
theorem r_mp {idx k : Nat} {x : Int32} {ty : FieldType} (hm : m + 14 < h.1) (hf : decode μ.2.1 pc = .ok (.putfield idx, 3)) (hlink : Cond.fieldLink μ.1.cls idx (TX12 k).1 (TX12 k).2.1 (TX12 k).2.2.1 ∈ lw_g) (hk : k < 30) (hfin : (TX12 k).2.2.2 = false) (hd : tyX12 k = ty) (hn : ∀ b base, narrow ty (cv b base (.int x)) = cv b base (.int x)) (hfit : ∀ b base, fits ty (cv b base (.int x)) = true) (he : (mF m s).set k (.int x) = mF m (upd s k x)) (kk : AW XS R μ kc ks (pc + 3) ls st (MP m h (upd s k x) A) Q) : AW XS R μ kc ks pc ls (.int x :: .ref m :: st) (MP m h s A) Q :=
  r_putf tyX12 hf hX12 tyX12_ok nmX12 eX12 hk hlink hfin hd hn hfit (by show k < 30; exact hk) (fun _ q => mo hm q) (fun g q => by unfold MP at q ⊢; rw [q]; exact mset he) kk
theorem r_ml {i j : Nat} {x : Int32} (hm : m + 14 < h.1) (hf : decode μ.2.1 pc = .ok (.iaload, 1)) (hi : i < 14) (hx : x.toInt = (j : Int)) (hj : j < mL i) (kk : AW XS R μ kc ks (pc + 1) ls (.int (A i j) :: st) (MP m h s A) Q) : AW XS R μ kc ks pc ls (.int x :: .ref (m + (i + 1)) :: st) (MP m h s A) Q :=
  r_iald hf (fun _ q => ma i hi hm q) hx hj kk
theorem r_ms {i j : Nat} {x v : Int32} (hm : m + 14 < h.1) (hf : decode μ.2.1 pc = .ok (.iastore, 1)) (hi : i < 14) (hx : x.toInt = (j : Int)) (hj : j < mL i) (kk : AW XS R μ kc ks (pc + 1) ls st (MP m h s (upA A i (upd (A i) j v))) Q) : AW XS R μ kc ks pc ls (.int v :: .int x :: .ref (m + (i + 1)) :: st) (MP m h s A) Q :=
  r_iast hf (fun _ q => ma i hi hm q) hx hj (fun g q => by unfold MP at q ⊢; rw [q]; exact maset hi) kk
theorem r_rl {f : Nat → Int32} {j : Nat} {x : Int32} (hm : m + 14 < h.1) (hf : decode μ.2.1 pc = .ok (.iaload, 1)) (hx : x.toInt = (j : Int)) (hj : j < 267) (kk : AW XS R μ kc ks (pc + 1) ls (.int (f j) :: st) (MP m h s (upA A 0 f)) Q) : AW XS R μ kc ks pc ls (.int x :: .ref (m + 1) :: st) (MP m h s (upA A 0 f)) Q :=
  r_ml (i := 0) hm hf (by decide) hx hj kk
theorem r_rs {f : Nat → Int32} {j : Nat} {x v : Int32} (hm : m + 14 < h.1) (hf : decode μ.2.1 pc = .ok (.iastore, 1)) (hx : x.toInt = (j : Int)) (hj : j < 267) (kk : AW XS R μ kc ks (pc + 1) ls st (MP m h s (upA A 0 (upd f j v))) Q) : AW XS R μ kc ks pc ls (.int v :: .int x :: .ref (m + 1) :: st) (MP m h s (upA A 0 f)) Q :=
  r_ms (i := 0) hm hf (by decide) hx hj (by rw [upA_2, upA_s]; exact kk)
end Mr
theorem ix2 (a b c : Nat) : nI a + nI b * nI c = nI (a + b * c) := by rw [pk_mul, nI_add]
