/-! rows over cells, calls, ends -/
theorem va_one {D : va_G} {cl : List vw_C} {x : Nat × va_E} {H : Heap} (h : va_at D cl x H) : va_P D cl [x] H := by
  intro k q hq
  cases k with
  | zero => cases hq; exact h
  | succ k => cases hq
theorem Sa.moved {base : Nat} {U U' : State} {H H' : Heap} (h : Sa base U H) (hvm : U.vm.Alike U'.vm) (hq : ∀ q, q < base → H'[q]? = H[q]?) : Sa base U' H' := by
  obtain ⟨t, h1, h2⟩ := h
  exact ⟨t, (h1.moved hvm).kept (fun a _ hA => hq a (Nat.not_le.mp hA)), (h2.moved hvm).kept (fun a _ hA => hq a (Nat.not_le.mp hA))⟩
theorem Sb.moved {base : Nat} {U U' : State} {H H' : Heap} (h : Sb base U H) (hvm : U.vm.Alike U'.vm) (hq : ∀ q, q < base → H'[q]? = H[q]?) : Sb base U' H' := by
  obtain ⟨t, h1, h2⟩ := h
  exact ⟨t, (h1.moved hvm).kept (fun a _ hA => hq a (Nat.not_le.mp hA)), (h2.moved hvm).kept (fun a _ hA => hq a (Nat.not_le.mp hA))⟩
theorem Sc.moved {b base : Nat} {X : XT} {U U' : State} {H H' : Heap} (h : Sc b base X U H) (hvm : U.vm.Alike U'.vm) (hq : ∀ q, q < base → H'[q]? = H[q]?) : Sc b base X U' H' := by
  intro L xs hX
  obtain ⟨h1, h2⟩ := h L xs hX
  exact ⟨(h1.moved hvm).kept (hq b h2), h2⟩
theorem ak.moved {cA : ClassId} {x : AE} {U U' : State} (h : ak cA x U) (hvm : U.vm.Alike U'.vm) : ak cA x U' := by
  match x, h with
  | .inl _, h => exact ⟨arrOfT_moved hvm h.1, h.2.moved hvm⟩
  | .inr (.inl _), h => exact ⟨arrOfT_moved hvm h.1, h.2.moved hvm⟩
  | .inr (.inr _), _ => trivial
theorem Hp.moved {D : va_G} {b base : Nat} {U U' : State} {h : AH} {H : Heap} (hh : Hp D b base U h H) (hvm : U.vm.Alike U'.vm) : Hp D b base U' h H := by
  obtain ⟨cA, h1, h2, h3⟩ := hh
  exact ⟨cA, h1, h2, fun i hi => (h3 i hi).moved hvm⟩
theorem Wd.moved {D : va_G} {b base : Nat} {X : XT} {h : AH} {U U' : State} (w : Wd D b base X h U) (hvm : U.vm.Alike U'.vm) (hh : U'.heap = U.heap) : Wd D b base X h U' := by
  obtain ⟨a1, a2, a3, a4, a5, a6⟩ := w
  have hq : ∀ q, q < base → U'.heap[q]? = U.heap[q]? := fun q _ => by rw [hh]
  exact ⟨a1.moved hvm, a2.moved hvm, a3.moved hvm hq, a4.moved hvm hq, a5.moved hvm hq, by rw [hh]; exact a6.moved hvm⟩
theorem Cx.wd {μ : MI} {b base : Nat} {X : XT} {D : va_G} {p : Program} {s U : State} {m : MethodId} {args : Array Value} {meth : Method} {c : Code} {h : AH} {H : Heap} {locs : List Loc} (hc : Cx μ b base X D p s m args meth c) (hH : Hp D b base s h H) (hS : va_S (iA base) s.heap H locs) (hU : U.heap = H) (hvm : s.vm.Alike U.vm) : Wd D b base X h U := by
  obtain ⟨-, -, -, -, -, -, -, -, a1, a2, a3, a4, a5, a6⟩ := hc
  have hq : ∀ q, q < base → U.heap[q]? = s.heap[q]? := fun q hq => by rw [hU]; exact hS.2.1 q (Nat.lt_of_lt_of_le hq a6) (Nat.not_le.mpr hq)
  exact ⟨a1.moved hvm, a2.moved hvm, a3.moved hvm hq, a4.moved hvm hq, a5.moved hvm hq, by rw [hU]; exact hH.moved hvm⟩
section RowsB
variable {XS : XT → Prop} {R : Room} {μ : MI} {kc ks pc : Nat} {ls : List (Option Value)} {st : List Value} {P P' : AH → Prop} {Q : Option Value → AH → Prop}
theorem r_getf {C : String} {T : u_T} {N ci idx k a : Nat} {fs : List Value} {v : Value} (hf : decode μ.2.1 pc = .ok (.getfield idx, 3)) (hin : ∀ w ∈ u_ws C T N, w ∈ lw_g) (hc0 : vwCl[ci]? = some (C, T, N)) (hk : k < N) (hlink : Cond.fieldLink μ.1.cls idx (T k).1 (T k).2.1 (T k).2.2.1 ∈ lw_g)
    (ho : ∀ h, P h → a < h.1 ∧ h.2 a = .inr (.inr (ci, fs))) (hv : fs[k]? = some v) (kk : AW XS R μ kc ks (pc + 3) ls (v :: st) P Q) : AW XS R μ kc ks pc ls (.ref a :: st) P Q := by
  intro p l e s m args below meth c D b base X Z hX hc hz h H locs lsA hP hH hS hL
  obtain ⟨cA, hsz, hat, hak⟩ := id hH
  obtain ⟨hlt, hob⟩ := ho h hP
  have h0 := hat a hlt
  rw [hob] at h0
  exact va_get (ws := [(base + a, .inr (ci, fs.map (cv b base)))]) (fs := fs.map (cv b base)) (v := cv b base v) (C := C) (T := T) (N := N) hc.1 hc.2.1 hc.2.2.2.2.2.2.2.1 hin hc.2.2.2.2.1 hc.2.2.2.2.2.2.2.2.1 (va_one h0) 0 rfl hc0 k hk (hc.2.2.2.2.2.2.2.1 _ hlink) (fun _ q => q) (by rw [List.getElem?_map, hv]; rfl) hf (kk p l e s m args below meth c D b base X Z hX hc hz h H locs lsA hP hH hS hL)
theorem Hp.set {D : va_G} {b base : Nat} {s : State} {h : AH} {H H' : Heap} {a : Nat} {x : AE} {cA : Nat → ClassId} (hsz : H.size = base + h.1) (hat : ∀ i, i < h.1 → va_at D vwCl (base + i, ce b base (cA i) (h.2 i)) H) (hak : ∀ i, i < h.1 → ak (cA i) (h.2 i) s)
    (e2 : H'.size = H.size) (e3 : ∀ q, q ≠ base + a → H'[q]? = H[q]?) (hx : va_at D vwCl (base + a, ce b base (cA a) x) H') (hxk : ak (cA a) x s) : Hp D b base s (hset h a x) H' := by
  refine ⟨cA, by rw [e2]; exact hsz, fun i hi => ?_, fun i hi => ?_⟩
  · by_cases hia : i = a
    · subst hia; rw [hset_same]; exact hx
    · rw [hset_ne _ _ hia]; exact (hat i hi).kept (e3 (base + i) (by omega))
  · by_cases hia : i = a
    · subst hia; rw [hset_same]; exact hxk
    · rw [hset_ne _ _ hia]; exact hak i hi
theorem r_putf {C : String} {T : u_T} {N ci idx k a : Nat} {fs : List Value} {v : Value} {ty : FieldType} (ty0 : Nat → FieldType) (hf : decode μ.2.1 pc = .ok (.putfield idx, 3)) (hin : ∀ w ∈ u_ws C T N, w ∈ lw_g) (hty : ∀ k, k < N → parseFieldDescriptor (T k).2.2.1 = some (ty0 k)) (hnm : ∀ a, a < N → ∀ b, b < N → a ≠ b → (T a).2.1 ≠ (T b).2.1) (hc0 : vwCl[ci]? = some (C, T, N)) (hk : k < N) (hlink : Cond.fieldLink μ.1.cls idx (T k).1 (T k).2.1 (T k).2.2.1 ∈ lw_g)
    (hfin : (T k).2.2.2 = false) (hd : ty0 k = ty) (hn : ∀ b base, narrow ty (cv b base v) = cv b base v) (hfit : ∀ b base, fits ty (cv b base v) = true) (hl : k < fs.length) (ho : ∀ h, P h → a < h.1 ∧ h.2 a = .inr (.inr (ci, fs))) (hu : ∀ h, P h → P' (hset h a (.inr (.inr (ci, fs.set k v))))) (kk : AW XS R μ kc ks (pc + 3) ls st P' Q) : AW XS R μ kc ks pc ls (v :: .ref a :: st) P Q := by
  intro p l e s m args below meth c D b base X Z hX hc hz h H locs lsA hP hH hS hL
  obtain ⟨cA, hsz, hat, hak⟩ := id hH
  obtain ⟨hlt, hob⟩ := ho h hP
  have h0 := hat a hlt
  rw [hob] at h0
  have hts := hc.2.2.2.2.2.2.2.1
  have hown := hc.2.2.2.2.1
  have hK := hc.2.2.2.2.2.2.2.2.1
  have hap := va_apart (own := μ.1.cls) hts hin ty0 hty hnm hK hc0
  obtain ⟨r, h1, cell, q1, q2, q3, q4⟩ := h0
  have hr : r = (C, T, N) := Option.some.inj (h1.symm.trans hc0)
  subst hr
  obtain ⟨hS0, hfc, kC, hkC, hkind⟩ := hK.1 ci _ hc0
  obtain ⟨cf, kf, fi, f, hi, hsl⟩ := hS0 k hk
  have hlay := hts _ (hin _ (u_in_lay hk))
  unfold u_lay at hlay
  rw [if_neg (by rw [hfin]; decide)] at hlay
  have hst := (u_facts hfc hkC (u_lays hts hin hk) hi).1
  have h6 := u_store hfc hkC hkind hlay hi (by rw [hty k hk, hd]) (hn b base) (hfit b base)
  refine W.putK hc.1 hc.2.1 (f := f) ⟨hown, hts _ hlink, ⟨_, _, _, hi⟩, hst⟩ (by rw [q2]; exact h6) q1 q3 (by rw [hsl]; exact k2_hasslot (q4 k hk)) rfl rfl hf fun H' e1 e2 e3 => ?_
  rw [hsl] at e1 ⊢
  refine kk p l e s m args below meth c D b base X Z hX hc hz _ H' _ lsA (hu h hP) (Hp.set hsz hat hak e2 e3 ?_ trivial) (hS.put e2 e3 (Nat.le_add_right base a)) hL
  refine ⟨_, hc0, t_OB.to (V := updV (vp_V (fs.map (cv b base))) k (cv b base v)) ⟨_, e1, q2, q3, t_set q4 hap hk _⟩ (fun j _ => ?_)⟩
  rw [List.map_set]
  exact vp_updV_set (by rw [List.length_map]; exact hl) _ j
theorem r_putF {C : String} {T : u_T} {N ci idx k a : Nat} {fs : List Value} {v : Value} {ty : FieldType} (ty0 : Nat → FieldType) (hf : decode μ.2.1 pc = .ok (.putfield idx, 3)) (hin : ∀ w ∈ u_ws C T N, w ∈ lw_g) (hty : ∀ k, k < N → parseFieldDescriptor (T k).2.2.1 = some (ty0 k)) (hnm : ∀ a, a < N → ∀ b, b < N → a ≠ b → (T a).2.1 ≠ (T b).2.1) (hc0 : vwCl[ci]? = some (C, T, N)) (hk : k < N) (hlink : Cond.fieldLink μ.1.cls idx (T k).1 (T k).2.1 (T k).2.2.1 ∈ lw_g)
    (hfin : (T k).2.2.2 = true) (hin2 : μ.1.name = "<init>") (hdecl : (T k).1 = μ.1.cls) (hd : ty0 k = ty) (hn : ∀ b base, narrow ty (cv b base v) = cv b base v) (hfit : ∀ b base, fits ty (cv b base v) = true) (hl : k < fs.length) (ho : ∀ h, P h → a < h.1 ∧ h.2 a = .inr (.inr (ci, fs))) (hu : ∀ h, P h → P' (hset h a (.inr (.inr (ci, fs.set k v))))) (kk : AW XS R μ kc ks (pc + 3) ls st P' Q) : AW XS R μ kc ks pc ls (v :: .ref a :: st) P Q := by
  intro p l e s m args below meth c D b base X Z hX hc hz h H locs lsA hP hH hS hL
  obtain ⟨cA, hsz, hat, hak⟩ := id hH
  obtain ⟨hlt, hob⟩ := ho h hP
  have h0 := hat a hlt
  rw [hob] at h0
  have hts := hc.2.2.2.2.2.2.2.1
  have hown := hc.2.2.2.2.1
  have hK := hc.2.2.2.2.2.2.2.2.1
  have hap := va_apart (own := μ.1.cls) hts hin ty0 hty hnm hK hc0
  obtain ⟨r, h1, cell, q1, q2, q3, q4⟩ := h0
  have hr : r = (C, T, N) := Option.some.inj (h1.symm.trans hc0)
  subst hr
  obtain ⟨hS0, hfc, kC, hkC, hkind⟩ := hK.1 ci _ hc0
  obtain ⟨cf, kf, fi, f, hi, hsl⟩ := hS0 k hk
  have hlay := hts _ (hin _ (u_in_lay hk))
  unfold u_lay at hlay
  rw [if_pos hfin] at hlay
  have hst := (u_facts hfc hkC (u_lays hts hin hk) hi).1
  have hcf : m.cls = cf := by
    obtain ⟨_, _, c', _, _, _, -, -, hf', -, -, -, hown2, -⟩ := Cond.laysFinal_spec hlay
    have e1 : c' = cf := by have := hi.symm.trans hf'; simp at this; exact this.1.symm
    rw [hdecl] at hown2
    rw [← e1]; exact Option.some.inj (hown.symm.trans hown2)
  have h6 := u_fits hfc hkC hkind (Or.inr hlay) hi (by rw [hty k hk, hd]) (hn b base) (hfit b base)
  refine W.putFinK hc.1 hc.2.1 hown (hts _ hlink) hi hst hcf (hc.2.2.2.2.2.2.1 hin2) (by rw [q2]; exact h6) q1 q3 (by rw [hsl]; exact k2_hasslot (q4 k hk)) rfl rfl hf fun H' e1 e2 e3 => ?_
  rw [hsl] at e1 ⊢
  refine kk p l e s m args below meth c D b base X Z hX hc hz _ H' _ lsA (hu h hP) (Hp.set hsz hat hak e2 e3 ?_ trivial) (hS.put e2 e3 (Nat.le_add_right base a)) hL
  refine ⟨_, hc0, t_OB.to (V := updV (vp_V (fs.map (cv b base))) k (cv b base v)) ⟨_, e1, q2, q3, t_set q4 hap hk _⟩ (fun j _ => ?_)⟩
  rw [List.map_set]
  exact vp_updV_set (by rw [List.length_map]; exact hl) _ j
theorem ix_in {i : Int32} {j n : Nat} (hi : i.toInt = (j : Int)) (hj : j < n) : vp_in i n := vp_in_iff.mpr ⟨by omega, by omega⟩
theorem ix_cl {i : Int32} {j : Nat} (hi : i.toInt = (j : Int)) : i.toNatClampNeg = j := by
  show i.toInt.toNat = j
  rw [hi]; rfl
theorem r_iald {n a j : Nat} {i : Int32} {f : Nat → Int32} (hf : decode μ.2.1 pc = .ok (.iaload, 1)) (ho : ∀ h, P h → a < h.1 ∧ h.2 a = .inl (n, f)) (hi : i.toInt = (j : Int)) (hj : j < n) (kk : AW XS R μ kc ks (pc + 1) ls (.int (f j) :: st) P Q) : AW XS R μ kc ks pc ls (.int i :: .ref a :: st) P Q := by
  intro p l e s m args below meth c D b base X Z hX hc hz h H locs lsA hP hH hS hL
  obtain ⟨cA, hsz, hat, hak⟩ := id hH
  obtain ⟨hlt, hob⟩ := ho h hP
  have h0 := hat a hlt
  have k0 := hak a hlt
  rw [hob] at h0 k0
  have hK : va_K D vwCl [(cA a, .int)] s := ⟨hc.2.2.2.2.2.2.2.2.1.1, fun k q hq => by
    cases k with
    | zero => cases hq; exact k0
    | succ k => cases hq⟩
  refine va_iald (ws := [(base + a, .inl (cA a, n, .inl f))]) hc.1 hc.2.1 hK (va_one h0) 0 0 rfl rfl (ix_in hi hj) hf ?_
  rw [ix_cl hi]
  exact kk p l e s m args below meth c D b base X Z hX hc hz h H locs lsA hP hH hS hL
theorem r_iast {n a j : Nat} {i x : Int32} {f : Nat → Int32} (hf : decode μ.2.1 pc = .ok (.iastore, 1)) (ho : ∀ h, P h → a < h.1 ∧ h.2 a = .inl (n, f)) (hi : i.toInt = (j : Int)) (hj : j < n) (hu : ∀ h, P h → P' (hset h a (.inl (n, upd f j x)))) (kk : AW XS R μ kc ks (pc + 1) ls st P' Q) : AW XS R μ kc ks pc ls (.int x :: .int i :: .ref a :: st) P Q := by
  intro p l e s m args below meth c D b base X Z hX hc hz h H locs lsA hP hH hS hL
  obtain ⟨cA, hsz, hat, hak⟩ := id hH
  obtain ⟨hlt, hob⟩ := ho h hP
  have h0 := hat a hlt
  have k0 := hak a hlt
  rw [hob] at h0 k0
  refine W.iast hc.1 hc.2.1 h0 (k0.1 n (fun j => .int (f j))) (fun q => by cases q) (by show ¬ (i < 0 ∨ (arrV _ _ _).slots.size ≤ _); rw [arrV_size]; exact ix_in hi hj) rfl rfl hf fun H1 e1 e2 e3 => ?_
  refine kk p l e s m args below meth c D b base X Z hX hc hz _ H1 _ lsA (hu h hP) (Hp.set hsz hat hak e2 e3 ?_ k0) (hS.put e2 e3 (Nat.le_add_right base a)) hL
  show H1[base + a]? = some (vp_cell _ _)
  rw [e1, ix_cl hi]
  show some ((arrV (cA a) n fun j => .int (f j)).setSlot j (.int x)) = some (arrV (cA a) n fun k => .int (upd f j x k))
  rw [arrV_store]
  congr 2
  funext q
  by_cases hq : q = j
  · subst hq; simp [updV, upd]
  · simp [updV, upd, hq]
theorem r_alen {a : Nat} {y : Nat × (Nat → Int32)} {v : Int32} (hf : decode μ.2.1 pc = .ok (.arraylength, 1)) (ho : ∀ h, P h → a < h.1 ∧ h.2 a = .inl y) (hv : Int32.ofNat y.1 = v) (kk : AW XS R μ kc ks (pc + 1) ls (.int v :: st) P Q) : AW XS R μ kc ks pc ls (.ref a :: st) P Q := by
  intro p l e s m args below meth c D b base X Z hX hc hz h H locs lsA hP hH hS hL
  obtain ⟨cA, hsz, hat, hak⟩ := id hH
  obtain ⟨hlt, hob⟩ := ho h hP
  have h0 := hat a hlt
  have k0 := hak a hlt
  rw [hob] at h0 k0
  have hK : va_K D vwCl [(cA a, .int)] s := ⟨hc.2.2.2.2.2.2.2.2.1.1, fun k q hq => by
    cases k with
    | zero => cases hq; exact k0
    | succ k => cases hq⟩
  exact va_alen (ws := [(base + a, .inl (cA a, y.1, .inl y.2))]) hc.1 hc.2.1 hK (va_one h0) 0 0 rfl rfl hv hf (kk p l e s m args below meth c D b base X Z hX hc hz h H locs lsA hP hH hS hL)
theorem r_alenq {a : Nat} {y : Nat × (Nat → Option Nat)} {v : Int32} (hf : decode μ.2.1 pc = .ok (.arraylength, 1)) (ho : ∀ h, P h → a < h.1 ∧ h.2 a = .inr (.inl y)) (hv : Int32.ofNat y.1 = v) (kk : AW XS R μ kc ks (pc + 1) ls (.int v :: st) P Q) : AW XS R μ kc ks pc ls (.ref a :: st) P Q := by
  intro p l e s m args below meth c D b base X Z hX hc hz h H locs lsA hP hH hS hL
  obtain ⟨cA, hsz, hat, hak⟩ := id hH
  obtain ⟨hlt, hob⟩ := ho h hP
  have h0 := hat a hlt
  have k0 := hak a hlt
  rw [hob] at h0 k0
  have hK : va_K D vwCl [(cA a, .object "OneGoCeiling$Sheet")] s := ⟨hc.2.2.2.2.2.2.2.2.1.1, fun k q hq => by
    cases k with
    | zero => cases hq; exact k0
    | succ k => cases hq⟩
  exact va_alen (ws := [(base + a, .inl (cA a, y.1, .inr (.inr (.inr (.inr (fun j => (y.2 j).map (fun k => base + k)))))))]) hc.1 hc.2.1 hK (va_one h0) 0 0 rfl rfl hv hf (kk p l e s m args below meth c D b base X Z hX hc hz h H locs lsA hP hH hS hL)
theorem r_aald {n a j y : Nat} {i : Int32} {f : Nat → Option Nat} (hf : decode μ.2.1 pc = .ok (.aaload, 1)) (ho : ∀ h, P h → a < h.1 ∧ h.2 a = .inr (.inl (n, f))) (hi : i.toInt = (j : Int)) (hj : j < n) (hy : f j = some y) (kk : AW XS R μ kc ks (pc + 1) ls (.ref y :: st) P Q) : AW XS R μ kc ks pc ls (.int i :: .ref a :: st) P Q := by
  intro p l e s m args below meth c D b base X Z hX hc hz h H locs lsA hP hH hS hL
  obtain ⟨cA, hsz, hat, hak⟩ := id hH
  obtain ⟨hlt, hob⟩ := ho h hP
  have h0 := hat a hlt
  have k0 := hak a hlt
  rw [hob] at h0 k0
  have hK : va_K D vwCl [(cA a, .object "OneGoCeiling$Sheet")] s := ⟨hc.2.2.2.2.2.2.2.2.1.1, fun k q hq => by
    cases k with
    | zero => cases hq; exact k0
    | succ k => cases hq⟩
  refine va_aldq (ws := [(base + a, .inl (cA a, n, .inr (.inr (.inr (.inr (fun j => (f j).map (fun k => base + k)))))))]) hc.1 hc.2.1 hK (va_one h0) 0 0 rfl rfl (ix_in hi hj) hf ?_
  rw [ix_cl hi, hy]
  exact kk p l e s m args below meth c D b base X Z hX hc hz h H locs lsA hP hH hS hL
theorem r_aast {n a j v : Nat} {i : Int32} {vs : List Value} {f : Nat → Option Nat} (hf : decode μ.2.1 pc = .ok (.aastore, 1)) (ho : ∀ h, P h → a < h.1 ∧ h.2 a = .inr (.inl (n, f))) (hv : ∀ h, P h → v < h.1 ∧ h.2 v = .inr (.inr (5, vs))) (hi : i.toInt = (j : Int)) (hj : j < n) (hu : ∀ h, P h → P' (hset h a (.inr (.inl (n, va_up f j (some v)))))) (kk : AW XS R μ kc ks (pc + 1) ls st P' Q) : AW XS R μ kc ks pc ls (.ref v :: .int i :: .ref a :: st) P Q := by
  intro p l e s m args below meth c D b base X Z hX hc hz h H locs lsA hP hH hS hL
  obtain ⟨cA, hsz, hat, hak⟩ := id hH
  obtain ⟨hlt, hob⟩ := ho h hP
  obtain ⟨hvlt, hvob⟩ := hv h hP
  have h0 := hat a hlt
  have k0 := hak a hlt
  have v0 := hat v hvlt
  rw [hob] at h0 k0
  rw [hvob] at v0
  have hK := hc.2.2.2.2.2.2.2.2.1
  have hx0 := ix_in hi hj
  have hlt2 : i.toNatClampNeg < n := Nat.not_le.mp fun q => hx0 (Or.inr q)
  have hn0 : ¬ i < 0 := fun q => hx0 (Or.inl q)
  obtain ⟨r', hr', cellV, g1, g2, g3, -⟩ := v0
  have hcl5 : vwCl[5]? = some (RX6, TX6, 2) := rfl
  have hcls := (hK.1 5 _ hcl5).2
  obtain ⟨kA, comp, k1, k2, k3, -⟩ := k0.2
  have hcomp : comp = D.1 5 := Option.some.inj (k3.symm.trans hcls.1)
  subst hcomp
  obtain ⟨kC, hkC, -⟩ := hcls.2
  refine W.aast hc.1 hc.2.1 h0 (fun q h => by cases h) (fun h => by cases h) k1 k2 rfl hkC ⟨hn0, by show _ < (arrV _ _ _).slots.size; rw [arrV_size]; exact hlt2⟩ g1 (fun q h => by rw [g3] at h; cases h) (by rw [g2]; exact hkC) (by rw [g2]; exact va_assign hcls) rfl rfl hf fun H1 e1 e2 e3 => ?_
  refine kk p l e s m args below meth c D b base X Z hX hc hz _ H1 _ lsA (hu h hP) (Hp.set hsz hat hak e2 e3 ?_ k0) (hS.put e2 e3 (Nat.le_add_right base a)) hL
  show H1[base + a]? = some (vp_cell _ _)
  rw [e1, ix_cl hi]
  show some ((arrV (cA a) n fun j => va_rf ((f j).map fun k => base + k)).setSlot j (.ref (base + v))) = some (arrV (cA a) n fun q => va_rf ((va_up f j (some v) q).map fun k => base + k))
  rw [arrV_store]
  congr 2
  funext q
  by_cases hq : q = j
  · subst hq; simp [updV, va_up, va_rf]
  · simp [updV, va_up, hq]
end RowsB
