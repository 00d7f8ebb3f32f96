/-! THE THOUGHT MACHINE: cells have numbers (0, 1, .. as they are made) instead of addresses; a method is walked over them, and what it says is true of the machine -/
abbrev AE : Type := (Nat × (Nat → Int32)) ⊕ ((Nat × (Nat → Option Nat)) ⊕ (Nat × List Value))
abbrev AH : Type := Nat × (Nat → AE)
abbrev MI : Type := MethodName × ByteArray × Nat × Option FieldType × Nat
abbrev XT : Type := Option (Nat × (Nat → Int32))
def cv (b base : Nat) (v : Value) : Value := match v with
  | .ref a => .ref (base + a)
  | .float _ => .ref b
  | w => w
def ce (b base : Nat) (cA : ClassId) (x : AE) : va_E := match x with
  | .inl a => .inl (cA, a.1, .inl a.2)
  | .inr (.inl a) => .inl (cA, a.1, .inr (.inr (.inr (.inr (fun j => (a.2 j).map (fun k => base + k))))))
  | .inr (.inr o) => .inr (o.1, o.2.map (cv b base))
def ak (cA : ClassId) (x : AE) (s : State) : Prop := match x with
  | .inl _ => ArrOfT s cA .int ∧ va_RA s cA .int
  | .inr (.inl _) => ArrOfT s cA (.object "OneGoCeiling$Sheet") ∧ va_RA s cA (.object "OneGoCeiling$Sheet")
  | .inr (.inr _) => True
def hset (h : AH) (i : Nat) (x : AE) : AH := (h.1, fun j => if j = i then x else h.2 j)
def hnew (h : AH) (x : AE) : AH := (h.1 + 1, fun j => if j = h.1 then x else h.2 j)
def iA (base : Nat) : Nat → Prop := fun q => base ≤ q
def Hp (D : va_G) (b base : Nat) (s : State) (h : AH) (H : Heap) : Prop :=
  ∃ cA : Nat → ClassId, H.size = base + h.1 ∧ (∀ i, i < h.1 → va_at D vwCl (base + i, ce b base (cA i) (h.2 i)) H) ∧ ∀ i, i < h.1 → ak (cA i) (h.2 i) s
def lAB : List Int32 := [-1, 0, 0, 0, 1, 2, 3]
def lBO : List Int32 := [10, 11, 12, 13, 0, 0, 20, 0, 0, 30, 0, 0, 40, 0, 0, 0, 0, 0, 50, 51, 0, 60, 0, 0, 0, 0, 0, 70]
def fAB : Nat → Value := fun j => .int (lAB.getD j 0)
def fBO : Nat → Value := fun j => .int (lBO.getD j 0)
def Sa (base : Nat) (U : State) (H : Heap) : Prop := ∃ t, va_Z "OneGoCeiling$Kinds" "ABOVE" "[I" (.ref t) (iA base) U H ∧ va_T .int t 7 fAB (iA base) U H
def Sb (base : Nat) (U : State) (H : Heap) : Prop := ∃ t, va_Z "OneGoCeiling$Voices" "BODIES" "[I" (.ref t) (iA base) U H ∧ va_T .int t 28 fBO (iA base) U H
def Sc (b base : Nat) (X : XT) (U : State) (H : Heap) : Prop := ∀ L xs, X = some (L, xs) → va_X b L xs U H ∧ b < base
def Wd (D : va_G) (b base : Nat) (X : XT) (h : AH) (U : State) : Prop :=
  va_K D vwCl [] U ∧ va_AO "OneGoCeiling$Sheet" U ∧ Sa base U U.heap ∧ Sb base U U.heap ∧ Sc b base X U U.heap ∧ Hp D b base U h U.heap
def rmd (d mc ms : Nat) : Room := { frames := d, cells := mc, slots := ms, locals := 41 * d }
def lw_g : List Cond := lw_tbl.filter goodWord
def wsM (μ : MI) : List Cond := .code μ.1 μ.2.1 μ.2.2.1 μ.2.2.2.1 :: lw_g
def QM (D : va_G) (b base : Nat) (X : XT) (Q : Option Value → AH → Prop) : Array Value → State → Outcome → State → Prop := fun _ st o t =>
  (∃ v h', o = .returned (v.map (cv b base)) ∧ Q v h' ∧ Wd D b base X h' t) ∧ st.heap.size ≤ t.heap.size ∧ ∀ q, q < base → t.heap[q]? = st.heap[q]?
/-- a method's contract, by a heap -/
def CT (d mc ms : Nat) (μ : MI) (as : List Value) (h : AH) (Q : Option Value → AH → Prop) : Prop :=
  ∀ (l : Launch) (D : va_G) (b base : Nat) (X : XT), Met l μ.1 (wsM μ) (rmd d mc ms) (fun args U => args = (as.map (cv b base)).toArray ∧ Wd D b base X h U) (QM D b base X Q) mc ms (iA base)
def lget : List (Option Value) → Nat → Option Value
  | [], _ => none
  | v :: _, 0 => v
  | _ :: l, i + 1 => lget l i
def lset : List (Option Value) → Nat → Value → List (Option Value)
  | [], _, _ => []
  | _ :: l, 0, v => some v :: l
  | w :: l, i + 1, v => w :: lset l i v
def lvl (f : Value → Value) : Nat → List (Option Value) → List (Nat × Value)
  | _, [] => []
  | i, none :: l => lvl f (i + 1) l
  | i, some v :: l => (i, f v) :: lvl f (i + 1) l
def lok : List (Option Value) → Nat → Bool
  | some (.long _) :: _, 1 => false
  | some (.double _) :: _, 1 => false
  | [], _ => true
  | _, 0 => true
  | _ :: l, i + 1 => lok l i
def ent : List Value → List (Option Value)
  | [] => []
  | .long x :: l => some (.long x) :: none :: ent l
  | .double x :: l => some (.double x) :: none :: ent l
  | v :: l => some v :: ent l
def pad : Nat → List (Option Value) → List (Option Value)
  | 0, l => l
  | n + 1, [] => none :: pad n []
  | n + 1, v :: l => v :: pad n l
def Re (μ : MI) (pc : Nat) (v : Option Value) : Prop := match v with
  | none => decode μ.2.1 pc = .ok (.return_, 1) ∧ μ.2.2.2.1 = none
  | some (.int x) => decode μ.2.1 pc = .ok (.ireturn, 1) ∧ ∃ ty, μ.2.2.2.1 = some ty ∧ narrow ty (.int x) = .int x
  | some w => decode μ.2.1 pc = .ok (.areturn, 1) ∧ (∃ ty, μ.2.2.2.1 = some ty ∧ ((∃ n, ty = .object n) ∨ ∃ t, ty = .array t)) ∧ (w = .null ∨ ∃ a, w = .ref a)
def Cx (μ : MI) (b base : Nat) (X : XT) (D : va_G) (p : Program) (s : State) (m : MethodId) (args : Array Value) (meth : Method) (c : Code) : Prop :=
  p.tables.exec = Jvm.exec ∧ c.code = μ.2.1 ∧ c.maxLocals = μ.2.2.1 ∧ meth.sig.returnType = μ.2.2.2.1 ∧ s.vm.findClass μ.1.cls = some m.cls ∧ meth.locks = false ∧ (μ.1.name = "<init>" → meth.name = "<init>") ∧ (∀ w ∈ lw_g, w.before args s = true) ∧ va_K D vwCl [] s ∧ va_AO "OneGoCeiling$Sheet" s ∧ Sa base s s.heap ∧ Sb base s s.heap ∧ Sc b base X s s.heap ∧ base ≤ s.heap.size
/-- from this instruction on, with these locals, this stack, any heap of P: the method ends with Q -/
def AW (XS : XT → Prop) (R : Room) (μ : MI) (kc ks pc : Nat) (ls : List (Option Value)) (st : List Value) (P : AH → Prop) (Q : Option Value → AH → Prop) : Prop :=
  ∀ (p : Program) (l : Launch) (e : Env) (s : State) (m : MethodId) (args : Array Value) (below : List Frame) (meth : Method) (c : Code) (D : va_G) (b base : Nat) (X : XT) (Z : State → Prop),
    XS X → Cx μ b base X D p s m args meth c →
    (∀ (pc : Nat) (v : Option Value) (h : AH) (H : Heap) (locs : List Loc) (lsA : Array Slot), Q v h → Re μ pc v → Hp D b base s h H → va_S (iA base) s.heap H locs → W p l e R s m args below meth c H locs R.cells R.slots Z (F0 m pc lsA (v.toList.map (cv b base)))) →
    ∀ (h : AH) (H : Heap) (locs : List Loc) (lsA : Array Slot), P h → Hp D b base s h H → va_S (iA base) s.heap H locs → lv_has lsA μ.2.2.1 (lvl (cv b base) 0 ls) → W p l e R s m args below meth c H locs kc ks Z (F0 m pc lsA (st.map (cv b base)))
-- ===== plain facts =====
theorem cv_cat (b base : Nat) (v : Value) : (cv b base v).category = v.category := by cases v <;> rfl
theorem lvl_mem {f : Value → Value} : ∀ {ls : List (Option Value)} {i : Nat} {q : Nat × Value}, q ∈ lvl f i ls ↔ ∃ j v, q = (i + j, f v) ∧ lget ls j = some v := by
  intro ls
  induction ls with
  | nil => intro i q; simp [lvl, lget]
  | cons w l ih =>
    intro i q
    cases w with
    | none =>
      rw [lvl, ih]
      constructor
      · rintro ⟨j, v, rfl, h⟩
        exact ⟨j + 1, v, by rw [show i + (j + 1) = i + 1 + j by omega], h⟩
      · rintro ⟨j, v, rfl, h⟩
        cases j with
        | zero => cases h
        | succ j => exact ⟨j, v, by rw [show i + (j + 1) = i + 1 + j by omega], h⟩
    | some w =>
      rw [lvl, List.mem_cons, ih]
      constructor
      · rintro (rfl | ⟨j, v, rfl, h⟩)
        · exact ⟨0, w, rfl, rfl⟩
        · exact ⟨j + 1, v, by rw [show i + (j + 1) = i + 1 + j by omega], h⟩
      · rintro ⟨j, v, rfl, h⟩
        cases j with
        | zero => cases h; exact Or.inl rfl
        | succ j => exact Or.inr ⟨j, v, by rw [show i + (j + 1) = i + 1 + j by omega], h⟩
theorem lget_ok {f : Value → Value} {ls : List (Option Value)} {lsA : Array Slot} {n i : Nat} {v : Value} (h : lv_has lsA n (lvl f 0 ls)) (hl : lget ls i = some v) : lsA[i]? = some (.val (f v)) :=
  h.2.2 (i, f v) (lvl_mem.mpr ⟨i, v, by rw [Nat.zero_add], hl⟩)
theorem lget_lset : ∀ {ls : List (Option Value)} {i j : Nat} {v w : Value}, lget (lset ls i v) j = some w → (j = i ∧ w = v) ∨ (j ≠ i ∧ lget ls j = some w) := by
  intro ls
  induction ls with
  | nil => intro i j v w h; simp [lset, lget] at h
  | cons x l ih =>
    intro i j v w h
    cases i with
    | zero =>
      cases j with
      | zero => simp only [lset, lget, Option.some.injEq] at h; exact Or.inl ⟨rfl, h.symm⟩
      | succ j => exact Or.inr ⟨by omega, h⟩
    | succ i =>
      cases j with
      | zero => exact Or.inr ⟨by omega, h⟩
      | succ j =>
        rcases ih (i := i) (j := j) (v := v) (w := w) h with ⟨a, b⟩ | ⟨a, b⟩
        · exact Or.inl ⟨by omega, b⟩
        · exact Or.inr ⟨by omega, b⟩
theorem lok_ok : ∀ {ls : List (Option Value)} {i : Nat} {v : Value}, lok ls (i + 1) = true → lget ls i = some v → v.category = 1 := by
  intro ls
  induction ls with
  | nil => intro i v _ h; simp [lget] at h
  | cons x l ih =>
    intro i v hk h
    cases i with
    | zero =>
      simp only [lget] at h
      subst h
      cases v <;> first | rfl | (simp [lok] at hk)
    | succ i =>
      have hk2 : lok l (i + 1) = true := by
        cases x with
        | none => exact hk
        | some y => cases y <;> exact hk
      exact ih hk2 h
/-- a store of one slot -/
theorem lset_ok {f : Value → Value} {ls : List (Option Value)} {lsA : Array Slot} {n i : Nat} {v : Value} (hf : ∀ w, (f w).category = w.category) (hk : lok ls i = true)
    (h : lv_has lsA n ((i, f v) :: (lvl f 0 ls).filter (fun q => !(q.1 == i) && !(q.1 + 1 == i && q.2.category == 2)))) : lv_has lsA n (lvl f 0 (lset ls i v)) := by
  refine ⟨h.1, h.2.1, fun q hq => h.2.2 q ?_⟩
  obtain ⟨j, w, rfl, hj⟩ := lvl_mem.mp hq
  rw [Nat.zero_add]
  rcases lget_lset hj with ⟨rfl, rfl⟩ | ⟨hne, hg⟩
  · exact List.mem_cons_self
  · refine List.mem_cons_of_mem _ (List.mem_filter.mpr ⟨lvl_mem.mpr ⟨j, w, by rw [Nat.zero_add], hg⟩, ?_⟩)
    simp only [Bool.and_eq_true, Bool.not_eq_true', beq_eq_false_iff_ne, ne_eq, Bool.and_eq_false_imp, beq_iff_eq]
    refine ⟨hne, fun e => ?_⟩
    subst e
    rw [hf, lok_ok hk hg]
    decide
theorem lget_pad : ∀ {n : Nat} {ls : List (Option Value)} {i : Nat} {v : Value}, lget (pad n ls) i = some v → lget ls i = some v := by
  intro n
  induction n with
  | zero => intro ls i v h; exact h
  | succ n ih =>
    intro ls i v h
    cases ls with
    | nil =>
      cases i with
      | zero => simp [pad, lget] at h
      | succ i => have := ih (ls := []) (i := i) h; simp [lget] at this
    | cons x l =>
      cases i with
      | zero => exact h
      | succ i => exact ih (ls := l) (i := i) h
theorem ent_ok {f : Value → Value} (hf : ∀ w, (f w).category = w.category) : ∀ (as : List Value) (i : Nat) (q : Nat × Value), q ∈ lvl f i (ent as) → q ∈ lv_args i (as.map f) := by
  intro as
  induction as with
  | nil => intro i q h; simp [ent, lvl] at h
  | cons v l ih =>
    intro i q h
    rw [List.map_cons, lv_args, hf]
    cases v with
    | long x =>
      simp only [ent, lvl, List.mem_cons] at h
      rcases h with h | h
      · exact List.mem_cons.mpr (Or.inl h)
      · exact List.mem_cons_of_mem _ (ih _ _ h)
    | double x =>
      simp only [ent, lvl, List.mem_cons] at h
      rcases h with h | h
      · exact List.mem_cons.mpr (Or.inl h)
      · exact List.mem_cons_of_mem _ (ih _ _ h)
    | _ =>
      simp only [ent, lvl, List.mem_cons] at h
      rcases h with h | h
      · exact List.mem_cons.mpr (Or.inl h)
      · exact List.mem_cons_of_mem _ (ih _ _ h)
theorem ent_pad {f : Value → Value} (hf : ∀ w, (f w).category = w.category) {as : List Value} {lsA : Array Slot} {n : Nat} (h : lv_has lsA n (lv_args 0 (as.map f))) : lv_has lsA n (lvl f 0 (pad n (ent as))) := by
  refine ⟨h.1, h.2.1, fun q hq => h.2.2 q ?_⟩
  obtain ⟨j, w, rfl, hj⟩ := lvl_mem.mp hq
  exact ent_ok hf as 0 _ (lvl_mem.mpr ⟨j, w, rfl, lget_pad hj⟩)
theorem cat_sum (b base : Nat) (st : List Value) : ((st.map (cv b base)).map fun v => v.category).sum = (st.map fun v => v.category).sum := by
  rw [List.map_map]
  congr 1
  exact List.map_congr_left fun v _ => cv_cat b base v
theorem lwg_in : ∀ w ∈ lw_g, w ∈ lw_tbl := fun w h => (List.mem_filter.mp h).1
theorem lwg_good : ∀ w ∈ lw_g, (w.onTables && w.keeps) = true ∨ ∃ ty, w = .arrayClass ty := fun w h => good_of_word (List.mem_filter.mp h).2
theorem lwg_at (i : Nat) {w : Cond} (h : lw_tbl[i]? = some w) (h2 : goodWord w = true) : w ∈ lw_g := List.mem_filter.mpr ⟨List.mem_of_getElem? h, h2⟩
theorem lwg_ws {μ : MI} (hc : Cond.code μ.1 μ.2.1 μ.2.2.1 μ.2.2.2.1 ∈ lw_g) : GoodIn lw_g (wsM μ) := fun w hw => by
  rcases List.mem_cons.mp hw with rfl | h
  · exact ⟨hc, lwg_good _ hc⟩
  · exact ⟨h, lwg_good _ h⟩
theorem hset_same (h : AH) (i : Nat) (x : AE) : (hset h i x).2 i = x := if_pos rfl
theorem hset_ne (h : AH) {i j : Nat} (x : AE) (n : j ≠ i) : (hset h i x).2 j = h.2 j := if_neg n
theorem hset_1 (h : AH) (i : Nat) (x : AE) : (hset h i x).1 = h.1 := rfl
