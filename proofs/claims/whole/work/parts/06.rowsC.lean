/-! new cells, calls, ends -/
section RowsC
variable {XS : XT → Prop} {R : Room} {μ : MI} {kc ks pc : Nat} {ls : List (Option Value)} {st : List Value} {P P' : AH → Prop} {Q : Option Value → AH → Prop}
theorem Hp.new {D : va_G} {b base : Nat} {s : State} {h : AH} {H H' : Heap} {x : AE} {cA : Nat → ClassId} {c0 : ClassId} (hsz : H.size = base + h.1) (hat : ∀ i, i < h.1 → va_at D vwCl (base + i, ce b base (cA i) (h.2 i)) H) (hak : ∀ i, i < h.1 → ak (cA i) (h.2 i) s)
    (e2 : H'.size = H.size + 1) (e3 : ∀ q, q < H.size → H'[q]? = H[q]?) (hx : va_at D vwCl (H.size, ce b base c0 x) H') (hxk : ak c0 x s) : Hp D b base s (hnew h x) H' := by
  refine ⟨fun i => if i = h.1 then c0 else cA i, by rw [e2, hsz]; rfl, fun i hi => ?_, fun i hi => ?_⟩
  · by_cases hia : i = h.1
    · subst hia
      show va_at D vwCl (base + h.1, ce b base (if h.1 = h.1 then c0 else cA h.1) (if h.1 = h.1 then x else h.2 h.1)) H'
      rw [if_pos rfl, if_pos rfl, ← hsz]
      exact hx
    · show va_at D vwCl (base + i, ce b base (if i = h.1 then c0 else cA i) (if i = h.1 then x else h.2 i)) H'
      have hi2 : i < h.1 + 1 := hi
      rw [if_neg hia, if_neg hia]
      exact (hat i (by omega)).kept (e3 (base + i) (by omega))
  · by_cases hia : i = h.1
    · subst hia
      show ak (if h.1 = h.1 then c0 else cA h.1) (if h.1 = h.1 then x else h.2 h.1) s
      rw [if_pos rfl, if_pos rfl]
      exact hxk
    · show ak (if i = h.1 then c0 else cA i) (if i = h.1 then x else h.2 i) s
      have hi2 : i < h.1 + 1 := hi
      rw [if_neg hia, if_neg hia]
      exact hak i (by omega)
theorem va_S.grown {A : Nat → Prop} {H0 H H' : Heap} {locs : List Loc} (hS : va_S A H0 H locs) (e2 : H'.size = H.size + 1) (e3 : ∀ q, q < H.size → H'[q]? = H[q]?) : va_S A H0 H' locs :=
  ⟨Nat.le_trans hS.1 (by omega), fun x h1 h2 => (e3 x (Nat.lt_of_lt_of_le h1 hS.1)).trans (hS.2.1 x h1 h2), hS.2.2⟩
theorem r_new {C : String} {T : u_T} {N ci idx n : Nat} {fs : List Value} (ty0 : Nat → FieldType) (hf : decode μ.2.1 pc = .ok (.new idx, 3)) (hin : ∀ w ∈ u_ws C T N, w ∈ lw_g) (hty : ∀ k, k < N → parseFieldDescriptor (T k).2.2.1 = some (ty0 k)) (hc0 : vwCl[ci]? = some (C, T, N)) (hcl : Cond.classLink μ.1.cls idx C ∈ lw_g) (hins : Cond.instantiable C N ∈ lw_g) (hini : Cond.initialized C ∈ lw_g)
    (hfs : ∀ b base j, j < N → defaultValue (ty0 j) = vp_V (fs.map (cv b base)) j) (hcells : kc + 1 ≤ R.cells) (hslots : ks + N ≤ R.slots) (hn : ∀ h, P h → h.1 = n) (hu : ∀ h, P h → P' (hnew h (.inr (.inr (ci, fs))))) (kk : AW XS R μ (kc + 1) (ks + N) (pc + 3) ls (.ref n :: st) P' Q) : AW XS R μ kc ks pc ls st P Q := by
  intro p l e s m args below meth c D b base X Z hX hc hz h H locs lsA hP hH hS hL
  obtain ⟨cA, hsz, hat, hak⟩ := id hH
  have hts := hc.2.2.2.2.2.2.2.1
  have hKn := hc.2.2.2.2.2.2.2.2.1.1 ci _ hc0
  refine W.newcK hc.1 hc.2.1 hc.2.2.2.2.1 (hts _ hcl) (hts _ hins) (hts _ hini) rfl hf hcells hslots hKn.2.1 rfl fun H1 kC hkC e1 z1 o1 => ?_
  have e0 : H.size = base + n := by rw [hsz, hn h hP]
  rw [e0]
  refine kk p l e s m args below meth c D b base X Z hX hc hz _ H1 _ lsA (hu h hP) (Hp.new (c0 := 0) hsz hat hak z1 o1 ?_ trivial) (hS.grown z1 o1) hL
  exact ⟨_, hc0, (u_born ty0 hts hin hKn hkC e1 hty).to (hfs b base)⟩
theorem r_newa {n N : Nat} {x : Int32} (hf : decode μ.2.1 pc = .ok (.newarray .int, 2)) (hac : Cond.arrayClass .int ∈ lw_g) (hx : x.toInt = (N : Int)) (hN : N ≤ 100000) (hcells : kc + 1 ≤ R.cells) (hslots : ks + N ≤ R.slots) (hn : ∀ h, P h → h.1 = n) (hu : ∀ h, P h → P' (hnew h (.inl (N, fun _ => 0)))) (kk : AW XS R μ (kc + 1) (ks + N) (pc + 2) ls (.ref n :: st) P' Q) : AW XS R μ kc ks pc ls (.int x :: st) P Q := by
  intro p l e s m args below meth c D b base X Z hX hc hz h H locs lsA hP hH hS hL
  obtain ⟨cA, hsz, hat, hak⟩ := id hH
  have hts := hc.2.2.2.2.2.2.2.1
  have h0 : ¬ x < 0 := fun q => by
    have := Int32.lt_iff_toInt_lt.mp q
    rw [hx] at this
    simp at this
    omega
  refine va_newaK hc.1 hc.2.1 (atype := .int) (hts _ hac) rfl hf rfl h0 (ix_cl hx) (by show N * 4 ≤ 536870912; omega) hcells hslots rfl fun H1 cA1 e1 z1 o1 hAr hNm => ?_
  have e0 : H.size = base + n := by rw [hsz, hn h hP]
  rw [e0]
  exact kk p l e s m args below meth c D b base X Z hX hc hz _ H1 _ lsA (hu h hP) (Hp.new (c0 := cA1) hsz hat hak z1 o1 e1 ⟨hAr, hNm⟩) (hS.grown z1 o1) hL
theorem r_newq {n N idx : Nat} {x : Int32} (hf : decode μ.2.1 pc = .ok (.anewarray idx, 3)) (hcl : Cond.classLink μ.1.cls idx "OneGoCeiling$Sheet" ∈ lw_g) (hx : x.toInt = (N : Int)) (hN : N ≤ 100000) (hcells : kc + 1 ≤ R.cells) (hslots : ks + N ≤ R.slots) (hn : ∀ h, P h → h.1 = n) (hu : ∀ h, P h → P' (hnew h (.inr (.inl (N, fun _ => none))))) (kk : AW XS R μ (kc + 1) (ks + N) (pc + 3) ls (.ref n :: st) P' Q) : AW XS R μ kc ks pc ls (.int x :: st) P Q := by
  intro p l e s m args below meth c D b base X Z hX hc hz h H locs lsA hP hH hS hL
  obtain ⟨cA, hsz, hat, hak⟩ := id hH
  have hts := hc.2.2.2.2.2.2.2.1
  have h0 : ¬ x < 0 := fun q => by
    have := Int32.lt_iff_toInt_lt.mp q
    rw [hx] at this
    simp at this
    omega
  have hxn := ix_cl hx
  refine W.anew (own := μ.1.cls) (C := "OneGoCeiling$Sheet") hc.1 hc.2.1 hc.2.2.2.2.1 (hts _ hcl) (va_AO.use hc.2.2.2.2.2.2.2.2.2.1) rfl hf rfl h0 (by rw [hxn]; omega) hcells (by rw [hxn]; exact hslots) fun cA1 kA comp f1 f2 f3 f4 => ?_
  rw [hxn]
  generalize hH1 : H.push ({ cls := cA1, slots := Array.replicate N .null, vm := .none } : Cell) = H1
  have z1 : H1.size = H.size + 1 := by rw [← hH1, Array.size_push]
  have e1 : H1[H.size]? = some (arrV cA1 N (fun _ => .null)) := by rw [← hH1, Array.getElem?_push_size, ← arrV_new]
  have o1 : ∀ q : Nat, q < H.size → H1[q]? = H[q]? := fun q hq => by rw [← hH1, Array.getElem?_push, if_neg (Nat.ne_of_lt hq)]
  have e0 : H.size = base + n := by rw [hsz, hn h hP]
  rw [e0]
  exact kk p l e s m args below meth c D b base X Z hX hc hz _ H1 _ lsA (hu h hP) (Hp.new (c0 := cA1) hsz hat hak z1 o1 e1 ⟨fun _ z => ⟨fun k h => (by cases h), kA, f2, comp, f3⟩, kA, comp, f2, f3, f4, f1⟩) (hS.grown z1 o1) hL
theorem r_objInit {idx a : Nat} (hf : decode μ.2.1 pc = .ok (.invokespecial idx, 3)) (hl : Cond.methodLink μ.1.cls idx objectInit ∈ lw_g) (hi : Cond.instanceMethod objectInit ∈ lw_g) (hco : Cond.code objectInit ⟨#[0xb1]⟩ 1 none ∈ lw_g) (hr : 1 ≤ R.frames ∧ 20 ≤ R.locals) (hst : (st.map fun v => v.category).sum ≤ 8) (kk : AW XS R μ kc ks (pc + 3) ls st P Q) : AW XS R μ kc ks pc ls (.ref a :: st) P Q := by
  intro p l e s m args below meth c D b base X Z hX hc hz h H locs lsA hP hH hS hL
  have hts := hc.2.2.2.2.2.2.2.1
  refine W.objInit hc.1 hc.2.1 hc.2.2.2.2.1 (hts _ hl) (hts _ hi) (hts _ hco) rfl (hL.1.trans hc.2.2.1.symm) rfl hf hr.1 ?_ ?_
  · rw [cat_sum]
    show 2 * 0 + _ + 12 ≤ _
    omega
  · exact kk p l e s m args below meth c D b base X Z hX hc hz h H locs lsA hP hH hS hL
/-- what is fixed of a method that is called: its words are there, its class is plain, how many arguments -/
def Lk (μ : MI) (n : Nat) : Prop := Cond.code μ.1 μ.2.1 μ.2.2.1 μ.2.2.2.1 ∈ lw_g ∧ Cond.initialized μ.1.cls ∈ lw_g ∧ (μ.1.cls ≠ "java/lang/invoke/MethodHandle" ∧ μ.1.cls ≠ "java/lang/invoke/VarHandle") ∧ (parseMethodDescriptor μ.1.desc).map (fun d => d.parameters.length) = some n
theorem Lk.B {R : Room} {s : State} {args : Array Value} {own : String} {idx n d mc ms : Nat} {μ : MI} (h : Lk μ n) (hts : ∀ w ∈ lw_g, w.before args s = true) (hl : Cond.methodLink own idx μ.1 ∈ lw_g) (hR : d + 1 ≤ R.frames ∧ 41 * d + μ.2.2.1 + 19 ≤ R.locals) : CallB R s args own idx μ.1 μ.2.1 μ.2.2.1 μ.2.2.2.1 (wsM μ) (rmd d mc ms) mc ms n :=
  callB_of n hts (lwg_ws h.1) rfl rfl rfl (hts _ h.2.1) (hts _ hl) ⟨h.2.2.1.1, h.2.2.1.2, h.2.2.2⟩ ⟨hR.1, by show 8 + (μ.2.2.1 + 11) + 41 * d ≤ _; omega⟩
theorem rb_call {p : Program} {l : Launch} {e : Env} {s : State} {m : MethodId} {args : Array Value} {below : List Frame} {meth : Method} {c : Code} {D : va_G} {b base : Nat} {X : XT} {Z : State → Prop} {H : Heap} {locs : List Loc} {mc ms : Nat} {lsA : Array Slot} {st0 rest : List Value} {Q' : Option Value → AH → Prop} {a : Array Value}
    (hr : va_Run p l e R s m args below meth c H locs kc ks mc ms (F0 m pc lsA st0) rest (QM D b base X Q' a) (iA base)) (hS : va_S (iA base) s.heap H locs) (hb : base ≤ s.heap.size)
    (kk : ∀ (v : Option Value) (h' : AH) (H' : Heap) (locs' : List Loc), Q' v h' → Hp D b base s h' H' → va_S (iA base) s.heap H' locs' → W p l e R s m args below meth c H' locs' (kc + mc) (ks + ms) Z (F0 m (pc + 3) lsA ((v.map (cv b base)).toList ++ rest))) : W p l e R s m args below meth c H locs kc ks Z (F0 m pc lsA st0) := by
  intro T hT X0
  obtain ⟨v, st₀, t, T', L, h0, X', hL, e1, e2, ⟨⟨v', h', hv, hQ, hw⟩, hz, hk⟩, stp⟩ := hr T hT X0
  cases hv
  rw [h0] at hz hk
  have hal : t.vm.Alike s.vm := by rw [← e2]; exact X'.warmed.alike.symm
  obtain ⟨-, -, -, -, -, hHp⟩ := hw
  obtain ⟨t2, a1, b1⟩ := kk v' h' T'.heap (locs ++ L) hQ (by rw [e1]; exact hHp.moved hal)
    ⟨Nat.le_trans hS.1 (by rw [e1]; exact hz), fun q h1 h2 => by rw [e1, hk q (Nat.not_le.mp h2)]; exact hS.2.1 q h1 h2, fun q hq => by
      rcases List.mem_append.mp hq with h | h
      · exact hS.2.2 q h
      · exact hL q h⟩ T' rfl X'
  exact ⟨t2, stp t2 a1, b1⟩
theorem Cx.pre {b base : Nat} {X : XT} {D : va_G} {p : Program} {s : State} {m : MethodId} {args : Array Value} {meth : Method} {c : Code} {h : AH} {H : Heap} {locs : List Loc} {vs : List Value} (hc : Cx μ b base X D p s m args meth c) (hH : Hp D b base s h H) (hS : va_S (iA base) s.heap H locs) :
    PreS s H (fun args U => args = (vs.map (cv b base)).toArray ∧ Wd D b base X h U) (vs.map (cv b base)) :=
  ⟨fun a U g mk q => ⟨q.1, q.2.moved (U' := U.calling g mk a) (Vm.Alike.refl U.vm) rfl⟩, fun U hU hW => ⟨rfl, hc.wd hH hS hU hW.alike⟩⟩
/-- a static method -/
theorem r_invS {idx n d mc ms : Nat} {μ' : MI} {Q' : Option Value → AH → Prop} (as rest : List Value) (hf : decode μ.2.1 pc = .ok (.invokestatic idx, 3)) (hl : Cond.methodLink μ.1.cls idx μ'.1 ∈ lw_g) (hs : Cond.static μ'.1 ∈ lw_g) (hk : Lk μ' n) (hn : as.length = n) (hst : st = as.reverse ++ rest) (hR : d + 1 ≤ R.frames ∧ 41 * d + μ'.2.2.1 + 19 ≤ R.locals) (hW : (rest.map fun v => v.category).sum ≤ 8) (hm : kc + mc ≤ R.cells ∧ ks + ms ≤ R.slots)
    (hct : ∀ h, P h → CT d mc ms μ' as h Q') (kk : ∀ v, AW XS R μ (kc + mc) (ks + ms) (pc + 3) ls (v.toList ++ rest) (Q' v) Q) : AW XS R μ kc ks pc ls st P Q := by
  subst hst
  intro p l e s m args below meth c D b base X Z hX hc hz h H locs lsA hP hH hS hL
  have hts := hc.2.2.2.2.2.2.2.1
  refine rb_call (mc := mc) (ms := ms) (a := (as.map (cv b base)).toArray) (va_runS (As := as.map (cv b base)) (rest := rest.map (cv b base)) (n := n) ⟨hc.1, hc.2.1, hc.2.2.1, hc.2.2.2.2.1, hts⟩ (hct h hP l D b base X) ⟨hk.B hts hl hR, hts _ hs⟩ (hc.pre hH hS) rfl (by rw [List.length_map]; exact hn) hL.1 (by rw [List.map_append, List.map_reverse]) (lv_room (by rw [cat_sum]; exact hW)) hf hm) hS hc.2.2.2.2.2.2.2.2.2.2.2.2.2 fun v h' H' locs' hQ hH' hS' => ?_
  have := kk v p l e s m args below meth c D b base X Z hX hc hz h' H' locs' lsA hQ hH' hS' hL
  cases v <;> exact this
/-- a constructor -/
theorem r_invI {idx n d mc ms a : Nat} {μ' : MI} {Q' : Option Value → AH → Prop} (as rest : List Value) (hf : decode μ.2.1 pc = .ok (.invokespecial idx, 3)) (hl : Cond.methodLink μ.1.cls idx μ'.1 ∈ lw_g) (hs : Cond.instanceMethod μ'.1 ∈ lw_g) (hnm : μ'.1.name = "<init>") (hnr : μ'.2.2.2.1 = none) (hk : Lk μ' n) (hn : as.length = n) (hst : st = as.reverse ++ .ref a :: rest) (hR : d + 1 ≤ R.frames ∧ 41 * d + μ'.2.2.1 + 19 ≤ R.locals) (hW : (rest.map fun v => v.category).sum ≤ 8) (hm : kc + mc ≤ R.cells ∧ ks + ms ≤ R.slots)
    (hct : ∀ h, P h → CT d mc ms μ' (.ref a :: as) h Q') (kk : ∀ v, AW XS R μ (kc + mc) (ks + ms) (pc + 3) ls (v.toList ++ rest) (Q' v) Q) : AW XS R μ kc ks pc ls st P Q := by
  subst hst
  intro p l e s m args below meth c D b base X Z hX hc hz h H locs lsA hP hH hS hL
  have hts := hc.2.2.2.2.2.2.2.1
  have hB := hk.B (mc := mc) (ms := ms) hts hl hR
  rw [hnr] at hB
  refine rb_call (mc := mc) (ms := ms) (a := ((Value.ref a :: as).map (cv b base)).toArray) (va_runI (b := base + a) (As := as.map (cv b base)) (rest := rest.map (cv b base)) (n := n) ⟨hc.1, hc.2.1, hc.2.2.1, hc.2.2.2.2.1, hts⟩ (hct h hP l D b base X) ⟨hB, hnm, hts _ hs⟩ (hc.pre (vs := .ref a :: as) hH hS) rfl (by rw [List.length_map]; exact hn) hL.1 (by rw [List.map_append, List.map_reverse]; rfl) (lv_room (by rw [cat_sum]; exact hW)) hf hm) hS hc.2.2.2.2.2.2.2.2.2.2.2.2.2 fun v h' H' locs' hQ hH' hS' => ?_
  have := kk v p l e s m args below meth c D b base X Z hX hc hz h' H' locs' lsA hQ hH' hS' hL
  cases v <;> exact this
/-- an object's method: the receiver is of the method's class -/
def CV (d mc ms : Nat) (μ : MI) (a : Nat) (as : List Value) (h : AH) (Q : Option Value → AH → Prop) : Prop := (∃ (fs : List Value) (T : u_T) (N : Nat), a < h.1 ∧ h.2 a = .inr (.inr (μ.2.2.2.2, fs)) ∧ vwCl[μ.2.2.2.2]? = some (μ.1.cls, T, N)) ∧ CT d mc ms μ (.ref a :: as) h Q
theorem r_invV {idx n d mc ms a : Nat} {μ' : MI} {Q' : Option Value → AH → Prop} (as rest : List Value) (hf : decode μ.2.1 pc = .ok (.invokevirtual idx, 3)) (hl : Cond.methodLink μ.1.cls idx μ'.1 ∈ lw_g) (hs : Cond.instanceMethod μ'.1 ∈ lw_g) (hse : Cond.selects μ'.1.cls μ'.1 μ'.1 ∈ lw_g) (hk : Lk μ' n) (hn : as.length = n) (hst : st = as.reverse ++ .ref a :: rest) (hR : d + 1 ≤ R.frames ∧ 41 * d + μ'.2.2.1 + 19 ≤ R.locals) (hW : (rest.map fun v => v.category).sum ≤ 8) (hm : kc + mc ≤ R.cells ∧ ks + ms ≤ R.slots)
    (hct : ∀ h, P h → CV d mc ms μ' a as h Q') (kk : ∀ v, AW XS R μ (kc + mc) (ks + ms) (pc + 3) ls (v.toList ++ rest) (Q' v) Q) : AW XS R μ kc ks pc ls st P Q := by
  subst hst
  intro p l e s m args below meth c D b base X Z hX hc hz h H locs lsA hP hH hS hL
  obtain ⟨cA, hsz, hat, hak⟩ := id hH
  have hts := hc.2.2.2.2.2.2.2.1
  obtain ⟨⟨fs, T, N, hlt, hob, hcl⟩, hct2⟩ := hct h hP
  have h0 := hat a hlt
  rw [hob] at h0
  have hp := hc.pre (vs := .ref a :: as) hH hS
  refine rb_call (mc := mc) (ms := ms) (a := ((Value.ref a :: as).map (cv b base)).toArray) (va_runV (b := base + a) (C := μ'.1.cls) (As := as.map (cv b base)) (rest := rest.map (cv b base)) (n := n) ⟨hc.1, hc.2.1, hc.2.2.1, hc.2.2.2.2.1, hts⟩ (hct2 l D b base X) ⟨hk.B hts hl hR, hts _ hs, hts _ hse⟩ ⟨hp.1, va_recv (q0 := 0) hc.2.2.2.2.2.2.2.2.1 (va_one h0) hcl rfl, hp.2⟩ rfl (by rw [List.length_map]; exact hn) hL.1 (by rw [List.map_append, List.map_reverse]; rfl) (lv_room (by rw [cat_sum]; exact hW)) hf hm) hS hc.2.2.2.2.2.2.2.2.2.2.2.2.2 fun v h' H' locs' hQ hH' hS' => ?_
  have := kk v p l e s m args below meth c D b base X Z hX hc hz h' H' locs' lsA hQ hH' hS' hL
  cases v <;> exact this
theorem r_mmax {idx : Nat} {x y v : Int32} (hf : decode μ.2.1 pc = .ok (.invokestatic idx, 3)) (hl : Cond.methodLink μ.1.cls idx Lib.Math.max.name ∈ lw_g) (hs : Cond.static Lib.Math.max.name ∈ lw_g) (hi : Cond.initialized "java/lang/Math" ∈ lw_g) (hco : Cond.code Lib.Math.max.name Lib.Math.max.code 2 (some .int) ∈ lw_g) (hr : 1 ≤ R.frames ∧ 21 ≤ R.locals) (hst : (st.map fun v => v.category).sum ≤ 8) (hm : kc ≤ R.cells ∧ ks ≤ R.slots) (hv : (if x < y then y else x) = v) (kk : AW XS R μ kc ks (pc + 3) ls (.int v :: st) P Q) : AW XS R μ kc ks pc ls (.int y :: .int x :: st) P Q := by
  subst hv
  intro p l e s m args below meth c D b base X Z hX hc hz h H locs lsA hP hH hS hL
  have hts := hc.2.2.2.2.2.2.2.1
  exact va_mmax hc.1 hc.2.1 (hc.2.2.1.trans hL.1.symm) hc.2.2.2.2.1 (hts _ hl) (hts _ hs) (hts _ hi) (hts _ hco) hr.1 (by rw [cat_sum]; omega) hm.1 hm.2 hf (kk p l e s m args below meth c D b base X Z hX hc hz h H locs lsA hP hH hS hL)
theorem r_mmin {idx : Nat} {x y v : Int32} (hf : decode μ.2.1 pc = .ok (.invokestatic idx, 3)) (hl : Cond.methodLink μ.1.cls idx Lib.Math.min.name ∈ lw_g) (hs : Cond.static Lib.Math.min.name ∈ lw_g) (hi : Cond.initialized "java/lang/Math" ∈ lw_g) (hco : Cond.code Lib.Math.min.name Lib.Math.min.code 2 (some .int) ∈ lw_g) (hr : 1 ≤ R.frames ∧ 21 ≤ R.locals) (hst : (st.map fun v => v.category).sum ≤ 8) (hm : kc ≤ R.cells ∧ ks ≤ R.slots) (hv : (if y < x then y else x) = v) (kk : AW XS R μ kc ks (pc + 3) ls (.int v :: st) P Q) : AW XS R μ kc ks pc ls (.int y :: .int x :: st) P Q := by
  subst hv
  intro p l e s m args below meth c D b base X Z hX hc hz h H locs lsA hP hH hS hL
  have hts := hc.2.2.2.2.2.2.2.1
  exact va_mmin hc.1 hc.2.1 (hc.2.2.1.trans hL.1.symm) hc.2.2.2.2.1 (hts _ hl) (hts _ hs) (hts _ hi) (hts _ hco) hr.1 (by rw [cat_sum]; omega) hm.1 hm.2 hf (kk p l e s m args below meth c D b base X Z hX hc hz h H locs lsA hP hH hS hL)
theorem r_mabs {idx : Nat} {x v : Int32} (hf : decode μ.2.1 pc = .ok (.invokestatic idx, 3)) (hl : Cond.methodLink μ.1.cls idx Lib.Math.abs.name ∈ lw_g) (hs : Cond.static Lib.Math.abs.name ∈ lw_g) (hi : Cond.initialized "java/lang/Math" ∈ lw_g) (hco : Cond.code Lib.Math.abs.name Lib.Math.abs.code 1 (some .int) ∈ lw_g) (hr : 1 ≤ R.frames ∧ 21 ≤ R.locals) (hst : (st.map fun v => v.category).sum ≤ 8) (hm : kc ≤ R.cells ∧ ks ≤ R.slots) (hv : (if 0 ≤ x then x else 0 - x) = v) (kk : AW XS R μ kc ks (pc + 3) ls (.int v :: st) P Q) : AW XS R μ kc ks pc ls (.int x :: st) P Q := by
  subst hv
  intro p l e s m args below meth c D b base X Z hX hc hz h H locs lsA hP hH hS hL
  have hts := hc.2.2.2.2.2.2.2.1
  exact va_mabs hc.1 hc.2.1 (hc.2.2.1.trans hL.1.symm) hc.2.2.2.2.1 (hts _ hl) (hts _ hs) (hts _ hi) (hts _ hco) hr.1 (by rw [cat_sum]; omega) hm.1 hm.2 hf (kk p l e s m args below meth c D b base X Z hX hc hz h H locs lsA hP hH hS hL)
/-- the end, with a value -/
theorem r_ret {v : Option Value} (hr : Re μ pc v) (hm : kc ≤ R.cells ∧ ks ≤ R.slots) (hq : ∀ h, P h → Q v h) : AW XS R μ kc ks pc ls v.toList P Q := by
  intro p l e s m args below meth c D b base X Z hX hc hz h H locs lsA hP hH hS hL
  exact W.widen hm.1 hm.2 (hz pc v h H locs lsA (hq h hP) hr hH hS)
theorem r_ireturn {x : Int32} {ty : FieldType} (hf : decode μ.2.1 pc = .ok (.ireturn, 1)) (hr : μ.2.2.2.1 = some ty) (hn : narrow ty (.int x) = .int x) (hm : kc ≤ R.cells ∧ ks ≤ R.slots) (hq : ∀ h, P h → Q (some (.int x)) h) : AW XS R μ kc ks pc ls [.int x] P Q :=
  r_ret (v := some (.int x)) ⟨hf, ty, hr, hn⟩ hm hq
theorem r_return (hf : decode μ.2.1 pc = .ok (.return_, 1)) (hr : μ.2.2.2.1 = none) (hm : kc ≤ R.cells ∧ ks ≤ R.slots) (hq : ∀ h, P h → Q none h) : AW XS R μ kc ks pc ls [] P Q :=
  r_ret (v := none) ⟨hf, hr⟩ hm hq
theorem r_areturn {x : Nat} {n : String} (hf : decode μ.2.1 pc = .ok (.areturn, 1)) (hr : μ.2.2.2.1 = some (.object n)) (hm : kc ≤ R.cells ∧ ks ≤ R.slots) (hq : ∀ h, P h → Q (some (.ref x)) h) : AW XS R μ kc ks pc ls [.ref x] P Q :=
  r_ret (v := some (.ref x)) ⟨hf, ⟨_, hr, Or.inl ⟨n, rfl⟩⟩, Or.inr ⟨x, rfl⟩⟩ hm hq
theorem r_areturnN {n : String} (hf : decode μ.2.1 pc = .ok (.areturn, 1)) (hr : μ.2.2.2.1 = some (.object n)) (hm : kc ≤ R.cells ∧ ks ≤ R.slots) (hq : ∀ h, P h → Q (some .null) h) : AW XS R μ kc ks pc ls [.null] P Q :=
  r_ret (v := some .null) ⟨hf, ⟨_, hr, Or.inl ⟨n, rfl⟩⟩, Or.inl rfl⟩ hm hq
end RowsC
/-- a method's contract out of its walk -/
theorem ct_of {d mc ms : Nat} {μ : MI} {as : List Value} {h : AH} {Q : Option Value → AH → Prop} (hy : plainName μ.1.cls = true) (hlen : ∀ b base, (lg_sl (as.map (cv b base))).length ≤ μ.2.2.1) (body : AW (fun _ => True) (rmd d mc ms) μ 0 0 0 (pad μ.2.2.1 (ent as)) [] (fun g => g = h) Q) : CT d mc ms μ as h Q := by
  intro l D b base X
  refine Met.ofW (cc := μ.2.1) (maxL := μ.2.2.1) (ret := μ.2.2.2.1) hy rfl ?_
  intro p e s m args below meth c s₁ B hml hv
  obtain ⟨rfl, hK, hAO, hSa, hSb, hSc, hHp⟩ := hv
  have hts := atoms_spec (ws := wsM μ) B.pre
  obtain ⟨cA0, hsz0, -, -⟩ := id hHp
  have hC : Cx μ b base X D p s m (as.map (cv b base)).toArray meth c := ⟨B.exec, B.bytes, hml, B.returns, findClass_of_methodNamed B.named, B.notSynchronized, fun q => ((name_of_methodNamed B.named B.method).1).trans q, fun w hw => hts w (List.mem_cons_of_mem _ hw), hK, hAO, hSa, hSb, hSc, by omega⟩
  have hl := lv_entry (as.map (cv b base)) (n := μ.2.2.1) (hlen b base)
  rw [lg_entry_eq]
  refine body p l e s m _ below meth c D b base X _ trivial hC ?_ h s.heap [] _ rfl hHp va_S.rf (ent_pad (cv_cat b base) hl)
  intro pc v h' H locs lsA hQ hRe hH hS
  have hq : ∀ (o : Outcome) (t : State), o = .returned (v.map (cv b base)) → t.heap = H → s.WarmedH t.vm → QM D b base X Q (as.map (cv b base)).toArray s o t := fun o t ho ht hW =>
    ⟨⟨v, h', ho, hQ, hC.wd hH hS ht hW.alike⟩, by rw [ht]; exact hS.1, fun q hq => by rw [ht]; exact hS.2.1 q (by omega) (Nat.not_le.mpr hq)⟩
  match v, hRe, hq with
  | none, hRe, hq => exact W.vret B.exec B.bytes (B.returns.trans hRe.2) (fun t ht hW => hq _ t rfl ht hW) hS.2.2 hRe.1 B.notSynchronized
  | some (.int x), hRe, hq =>
    obtain ⟨hf, ty, h1, h2⟩ := hRe
    exact W.zret B.exec B.bytes (B.returns.trans h1) h2 (fun t ht hW => hq _ t rfl ht hW) hS.2.2 hf B.notSynchronized
  | some .null, hRe, hq =>
    obtain ⟨hf, ⟨ty, h1, h2⟩, h3⟩ := hRe
    exact W.aret B.exec B.bytes (B.returns.trans h1) h2 (Or.inl rfl) (fun t ht hW => hq _ t rfl ht hW) hS.2.2 hf B.notSynchronized
  | some (.ref x), hRe, hq =>
    obtain ⟨hf, ⟨ty, h1, h2⟩, h3⟩ := hRe
    exact W.aret B.exec B.bytes (B.returns.trans h1) h2 (Or.inr ⟨base + x, rfl⟩) (fun t ht hW => hq _ t rfl ht hW) hS.2.2 hf B.notSynchronized
  | some (.long x), hRe, _ => obtain ⟨-, -, h3⟩ := hRe; rcases h3 with h3 | ⟨_, h3⟩ <;> cases h3
  | some (.float x), hRe, _ => obtain ⟨-, -, h3⟩ := hRe; rcases h3 with h3 | ⟨_, h3⟩ <;> cases h3
  | some (.double x), hRe, _ => obtain ⟨-, -, h3⟩ := hRe; rcases h3 with h3 | ⟨_, h3⟩ <;> cases h3
