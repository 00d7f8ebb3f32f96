/-! THE CLAIM OUT OF ONE WALK OF THE LAW'S BODY. Your part is whole_start (and what it stands on); all else here is the same for every law, but numbers. -/
def R_law : String := "OneGoCeilingLaw"
def lw_P (b : Addr) (xs : List Int32) (args : Array Value) (s : State) : Prop := args = #[.ref b] ∧ s.IntsAt b xs ∧ xs.length ≤ 3072 ∧ (Jvm.Cond.and given_1 narrow_1).before args s = true
def lw_Q (_ : Array Value) (s : State) (o : Outcome) (t : State) : Prop := o = .returned (some (.int 1)) ∧ Framed s o t [] 600000 7302250
def lw_Z (below : List Frame) (a : Array Value) (s : State) : State → Prop := fun t => ∃ o, t.status = .running ∧ Ended t below o ∧ lw_Q a s o t
/-- the law's own end, with 1 on the stack, nothing written that was there before, its room as the claim has it -/
theorem lw_ret {p : Program} {l : Launch} {e : Env} {s : State} {m : MethodId} {below : List Frame} {meth : Method} {c : Code} {b : Nat} (hx : p.tables.exec = Jvm.exec) (hb : c.code = code) (hr : meth.sig.returnType = ret) (hlocks : meth.locks = false) {pc : Nat} {H : Heap} {ls : Array Slot} (hdg : decode code pc = .ok (.ireturn, 1)) : W p l e room_1 s m #[Value.ref b] below meth c H [] 600000 7302250 (lw_Z below #[Value.ref b] s) (F0 m pc ls [.int 1]) := by
  intro T hT X
  obtain ⟨fs, hret, hrun, hended, hW, hframe⟩ := X.leave (v := some (.int 1)) (hlocks := hlocks) (fun h => by rw [hr] at h; cases h)
  have hmeth' : T.vm.method? m = some meth := X.method'
  refine ⟨T.setFrames fs, ?_, .returned (some (.int 1)), hrun, hended, rfl, ⟨_, rfl⟩, hW, hframe⟩
  jvm_step X.here [X.here.top, hx, hb, hdg, hmeth', hr, ret, narrow_b1]
  (try refine ⟨rfl, ?_⟩); (try refine ⟨rfl, ?_⟩)
  first | (intro acts; rw [hret _ acts rfl rfl rfl]) | rw [hret _ _ rfl rfl rfl]
  exact Steps.refl _
/-- what holds at the law's entry: the machine, the code, the tables' words (any of lw_tbl by 'hts w (by decide +kernel)'), the script of L ints xs at the cell b, what the Statement gives of the start (any of its parts by flat_of_before) -/
def lw_At (p : Program) (s : State) (m : MethodId) (meth : Method) (c : Code) (b L : Nat) (xs : Nat → Int32) : Prop :=
  p.tables.exec = Jvm.exec ∧ c.code = code ∧ meth.sig.returnType = ret ∧ c.maxLocals = 4 ∧ s.vm.findClass R_law = some m.cls ∧ (∀ w ∈ lw_tbl, w.before #[Value.ref b] s = true) ∧ va_X b L xs s s.heap ∧ b < s.heap.size ∧ meth.locks = false ∧ (Jvm.Cond.and given_1 narrow_1).before #[Value.ref b] s = true
theorem st_above {s : State} {b : Nat} (hts : ∀ w ∈ lw_tbl, w.before #[Value.ref b] s = true) (hgv : (Jvm.Cond.and given_1 narrow_1).before #[Value.ref b] s = true) : ∃ t, va_Z "OneGoCeiling$Kinds" "ABOVE" "[I" (.ref t) (iA s.heap.size) s s.heap ∧ va_T .int t 7 fAB (iA s.heap.size) s s.heap := by
  have hs := flat_of_before _ hgv
  have hA : ∀ a : Nat, a < s.heap.size → ¬ iA s.heap.size a := fun a h => Nat.not_le.mpr h
  have hlen : (Term.length (.static "OneGoCeiling$Kinds" "ABOVE" "[I")).eval #[Value.ref b] s none [] s = some (.int (Int32.ofNat 7)) := va_eqt (hs (Cond.eq (.length (.static "OneGoCeiling$Kinds" "ABOVE" "[I")) (.int 7)) (by decide +kernel))
  have hel : ∀ j : Nat, j < 7 → (Term.elem (.static "OneGoCeiling$Kinds" "ABOVE" "[I") (.int (Int32.ofNat j))).eval #[Value.ref b] s none [] s = some (fAB j) := fun j hj => match j, hj with
    | 0, _ => va_eqt (hs (Cond.eq (.elem (.static "OneGoCeiling$Kinds" "ABOVE" "[I") (.int 0)) (.int (-1))) (by decide +kernel))
    | 1, _ => va_eqt (hs (Cond.eq (.elem (.static "OneGoCeiling$Kinds" "ABOVE" "[I") (.int 1)) (.int 0)) (by decide +kernel))
    | 2, _ => va_eqt (hs (Cond.eq (.elem (.static "OneGoCeiling$Kinds" "ABOVE" "[I") (.int 2)) (.int 0)) (by decide +kernel))
    | 3, _ => va_eqt (hs (Cond.eq (.elem (.static "OneGoCeiling$Kinds" "ABOVE" "[I") (.int 3)) (.int 0)) (by decide +kernel))
    | 4, _ => va_eqt (hs (Cond.eq (.elem (.static "OneGoCeiling$Kinds" "ABOVE" "[I") (.int 4)) (.int 1)) (by decide +kernel))
    | 5, _ => va_eqt (hs (Cond.eq (.elem (.static "OneGoCeiling$Kinds" "ABOVE" "[I") (.int 5)) (.int 2)) (by decide +kernel))
    | 6, _ => va_eqt (hs (Cond.eq (.elem (.static "OneGoCeiling$Kinds" "ABOVE" "[I") (.int 6)) (.int 3)) (by decide +kernel))
    | j + 7, h => absurd h (by omega)
  obtain ⟨t, h1, h2⟩ := va_Tof (tm := .static "OneGoCeiling$Kinds" "ABOVE" "[I") (ty := .int) (N := 7) (f := fAB) (A := iA s.heap.size) (by decide) (hs (Cond.arrayOf (.static "OneGoCeiling$Kinds" "ABOVE" "[I") .int) (by decide +kernel)) hlen hel hA
  exact ⟨t, va_Zref (hts (.laysStatic "OneGoCeiling$Kinds" "ABOVE" "[I") (by decide +kernel)) (hts (.initialized "OneGoCeiling$Kinds") (by decide +kernel)) h1 hA, h2⟩
theorem st_bodies {s : State} {b : Nat} (hts : ∀ w ∈ lw_tbl, w.before #[Value.ref b] s = true) (hgv : (Jvm.Cond.and given_1 narrow_1).before #[Value.ref b] s = true) : ∃ t, va_Z "OneGoCeiling$Voices" "BODIES" "[I" (.ref t) (iA s.heap.size) s s.heap ∧ va_T .int t 28 fBO (iA s.heap.size) s s.heap := by
  have hs := flat_of_before _ hgv
  have hA : ∀ a : Nat, a < s.heap.size → ¬ iA s.heap.size a := fun a h => Nat.not_le.mpr h
  have hlen : (Term.length (.static "OneGoCeiling$Voices" "BODIES" "[I")).eval #[Value.ref b] s none [] s = some (.int (Int32.ofNat 28)) := va_eqt (hs (Cond.eq (.length (.static "OneGoCeiling$Voices" "BODIES" "[I")) (.int 28)) (by decide +kernel))
  have hel : ∀ j : Nat, j < 28 → (Term.elem (.static "OneGoCeiling$Voices" "BODIES" "[I") (.int (Int32.ofNat j))).eval #[Value.ref b] s none [] s = some (fBO j) := fun j hj => match j, hj with
    | 0, _ => va_eqt (hs (Cond.eq (.elem (.static "OneGoCeiling$Voices" "BODIES" "[I") (.int 0)) (.int 10)) (by decide +kernel))
    | 1, _ => va_eqt (hs (Cond.eq (.elem (.static "OneGoCeiling$Voices" "BODIES" "[I") (.int 1)) (.int 11)) (by decide +kernel))
    | 2, _ => va_eqt (hs (Cond.eq (.elem (.static "OneGoCeiling$Voices" "BODIES" "[I") (.int 2)) (.int 12)) (by decide +kernel))
    | 3, _ => va_eqt (hs (Cond.eq (.elem (.static "OneGoCeiling$Voices" "BODIES" "[I") (.int 3)) (.int 13)) (by decide +kernel))
    | 4, _ => va_eqt (hs (Cond.eq (.elem (.static "OneGoCeiling$Voices" "BODIES" "[I") (.int 4)) (.int 0)) (by decide +kernel))
    | 5, _ => va_eqt (hs (Cond.eq (.elem (.static "OneGoCeiling$Voices" "BODIES" "[I") (.int 5)) (.int 0)) (by decide +kernel))
    | 6, _ => va_eqt (hs (Cond.eq (.elem (.static "OneGoCeiling$Voices" "BODIES" "[I") (.int 6)) (.int 20)) (by decide +kernel))
    | 7, _ => va_eqt (hs (Cond.eq (.elem (.static "OneGoCeiling$Voices" "BODIES" "[I") (.int 7)) (.int 0)) (by decide +kernel))
    | 8, _ => va_eqt (hs (Cond.eq (.elem (.static "OneGoCeiling$Voices" "BODIES" "[I") (.int 8)) (.int 0)) (by decide +kernel))
    | 9, _ => va_eqt (hs (Cond.eq (.elem (.static "OneGoCeiling$Voices" "BODIES" "[I") (.int 9)) (.int 30)) (by decide +kernel))
    | 10, _ => va_eqt (hs (Cond.eq (.elem (.static "OneGoCeiling$Voices" "BODIES" "[I") (.int 10)) (.int 0)) (by decide +kernel))
    | 11, _ => va_eqt (hs (Cond.eq (.elem (.static "OneGoCeiling$Voices" "BODIES" "[I") (.int 11)) (.int 0)) (by decide +kernel))
    | 12, _ => va_eqt (hs (Cond.eq (.elem (.static "OneGoCeiling$Voices" "BODIES" "[I") (.int 12)) (.int 40)) (by decide +kernel))
    | 13, _ => va_eqt (hs (Cond.eq (.elem (.static "OneGoCeiling$Voices" "BODIES" "[I") (.int 13)) (.int 0)) (by decide +kernel))
    | 14, _ => va_eqt (hs (Cond.eq (.elem (.static "OneGoCeiling$Voices" "BODIES" "[I") (.int 14)) (.int 0)) (by decide +kernel))
    | 15, _ => va_eqt (hs (Cond.eq (.elem (.static "OneGoCeiling$Voices" "BODIES" "[I") (.int 15)) (.int 0)) (by decide +kernel))
    | 16, _ => va_eqt (hs (Cond.eq (.elem (.static "OneGoCeiling$Voices" "BODIES" "[I") (.int 16)) (.int 0)) (by decide +kernel))
    | 17, _ => va_eqt (hs (Cond.eq (.elem (.static "OneGoCeiling$Voices" "BODIES" "[I") (.int 17)) (.int 0)) (by decide +kernel))
    | 18, _ => va_eqt (hs (Cond.eq (.elem (.static "OneGoCeiling$Voices" "BODIES" "[I") (.int 18)) (.int 50)) (by decide +kernel))
    | 19, _ => va_eqt (hs (Cond.eq (.elem (.static "OneGoCeiling$Voices" "BODIES" "[I") (.int 19)) (.int 51)) (by decide +kernel))
    | 20, _ => va_eqt (hs (Cond.eq (.elem (.static "OneGoCeiling$Voices" "BODIES" "[I") (.int 20)) (.int 0)) (by decide +kernel))
    | 21, _ => va_eqt (hs (Cond.eq (.elem (.static "OneGoCeiling$Voices" "BODIES" "[I") (.int 21)) (.int 60)) (by decide +kernel))
    | 22, _ => va_eqt (hs (Cond.eq (.elem (.static "OneGoCeiling$Voices" "BODIES" "[I") (.int 22)) (.int 0)) (by decide +kernel))
    | 23, _ => va_eqt (hs (Cond.eq (.elem (.static "OneGoCeiling$Voices" "BODIES" "[I") (.int 23)) (.int 0)) (by decide +kernel))
    | 24, _ => va_eqt (hs (Cond.eq (.elem (.static "OneGoCeiling$Voices" "BODIES" "[I") (.int 24)) (.int 0)) (by decide +kernel))
    | 25, _ => va_eqt (hs (Cond.eq (.elem (.static "OneGoCeiling$Voices" "BODIES" "[I") (.int 25)) (.int 0)) (by decide +kernel))
    | 26, _ => va_eqt (hs (Cond.eq (.elem (.static "OneGoCeiling$Voices" "BODIES" "[I") (.int 26)) (.int 0)) (by decide +kernel))
    | 27, _ => va_eqt (hs (Cond.eq (.elem (.static "OneGoCeiling$Voices" "BODIES" "[I") (.int 27)) (.int 70)) (by decide +kernel))
    | j + 28, h => absurd h (by omega)
  obtain ⟨t, h1, h2⟩ := va_Tof (tm := .static "OneGoCeiling$Voices" "BODIES" "[I") (ty := .int) (N := 28) (f := fBO) (A := iA s.heap.size) (by decide) (hs (Cond.arrayOf (.static "OneGoCeiling$Voices" "BODIES" "[I") .int) (by decide +kernel)) hlen hel hA
  exact ⟨t, va_Zref (hts (.laysStatic "OneGoCeiling$Voices" "BODIES" "[I") (by decide +kernel)) (hts (.initialized "OneGoCeiling$Voices") (by decide +kernel)) h1 hA, h2⟩
theorem st_known {s : State} {b : Nat} (hg : ∀ w ∈ lw_g, w.before #[Value.ref b] s = true) : ∃ D : va_G, va_K D vwCl [] s := by
  obtain ⟨c0, i0, h0⟩ := u_known (C := RX0) (T := TX0) (N := 10) (n := 10) hg hX0 (hg _ aX0)
  obtain ⟨c1, i1, h1⟩ := u_known (C := RX1) (T := TX1) (N := 2) (n := 2) hg hX1 (hg _ aX1)
  obtain ⟨c2, i2, h2⟩ := u_known (C := RX2) (T := TX2) (N := 4) (n := 4) hg hX2 (hg _ aX2)
  obtain ⟨c3, i3, h3⟩ := u_known (C := RX4) (T := TX4) (N := 5) (n := 5) hg hX4 (hg _ aX4)
  obtain ⟨c4, i4, h4⟩ := u_known (C := RX5) (T := TX5) (N := 2) (n := 2) hg hX5 (hg _ aX5)
  obtain ⟨c5, i5, h5⟩ := u_known (C := RX6) (T := TX6) (N := 2) (n := 2) hg hX6 (hg _ aX6)
  obtain ⟨c6, i6, h6⟩ := u_known (C := RX7) (T := TX7) (N := 7) (n := 7) hg hX7 (hg _ aX7)
  obtain ⟨c7, i7, h7⟩ := u_known (C := RX8) (T := TX8) (N := 3) (n := 3) hg hX8 (hg _ aX8)
  obtain ⟨c8, i8, h8⟩ := u_known (C := RX9) (T := TX9) (N := 9) (n := 9) hg hX9 (hg _ aX9)
  obtain ⟨c9, i9, h9⟩ := u_known (C := RX10) (T := TX10) (N := 4) (n := 4) hg hX10 (hg _ aX10)
  obtain ⟨c10, i10, h10⟩ := u_known (C := RX11) (T := TX11) (N := 9) (n := 9) hg hX11 (hg _ aX11)
  obtain ⟨c11, i11, h11⟩ := u_known (C := RX12) (T := TX12) (N := 30) (n := 30) hg hX12 (hg _ aX12)
  have hx : ∀ k : Nat, ∃ c : ClassId, ∃ i : Nat → Nat, ∀ q : vw_C, vwCl[k]? = some q → u_Kn s q.1 q.2.1 q.2.2 c i := fun k => match k with
    | 0 => ⟨c0, i0, fun q hq => by cases hq; exact h0⟩
    | 1 => ⟨c1, i1, fun q hq => by cases hq; exact h1⟩
    | 2 => ⟨c2, i2, fun q hq => by cases hq; exact h2⟩
    | 3 => ⟨c3, i3, fun q hq => by cases hq; exact h3⟩
    | 4 => ⟨c4, i4, fun q hq => by cases hq; exact h4⟩
    | 5 => ⟨c5, i5, fun q hq => by cases hq; exact h5⟩
    | 6 => ⟨c6, i6, fun q hq => by cases hq; exact h6⟩
    | 7 => ⟨c7, i7, fun q hq => by cases hq; exact h7⟩
    | 8 => ⟨c8, i8, fun q hq => by cases hq; exact h8⟩
    | 9 => ⟨c9, i9, fun q hq => by cases hq; exact h9⟩
    | 10 => ⟨c10, i10, fun q hq => by cases hq; exact h10⟩
    | 11 => ⟨c11, i11, fun q hq => by cases hq; exact h11⟩
    | k + 12 => ⟨c0, i0, fun q hq => by simp [vwCl] at hq⟩
  obtain ⟨dC, h1⟩ := Classical.axiomOfChoice hx
  obtain ⟨dI, h2⟩ := Classical.axiomOfChoice h1
  exact ⟨(dC, dI), fun k q hq => h2 k q hq, fun k q hq => by simp at hq⟩
set_option maxRecDepth 100000 in
theorem whole_start {p : Program} {e : Env} {s : State} {m : MethodId} {below : List Frame} {meth : Method} {c : Code} (l : Launch) (hflags : l.flags = flags0) {b L : Nat} {xs : Nat → Int32} (hL : L ≤ 3072) (C0 : lw_At p s m meth c b L xs) : W p l e room_1 s m #[Value.ref b] below meth c s.heap [] 0 0 (lw_Z below #[Value.ref b] s) (entryFrame m ([Value.ref b] : List Value).toArray 4) := by
  obtain ⟨hx, hb, hr, hml, hown, hts, hX, hbl, hlocks, hgv⟩ := id C0
  have hg : ∀ w ∈ lw_g, w.before #[Value.ref b] s = true := fun w h => hts w (lwg_in w h)
  obtain ⟨D, hK⟩ := st_known hg
  have hSa : Sa s.heap.size s s.heap := st_above hts hgv
  have hSb : Sb s.heap.size s s.heap := st_bodies hts hgv
  have hAO : va_AO "OneGoCeiling$Sheet" s := va_AO.of (hts (.arrayOver (.object "OneGoCeiling$Sheet")) (by decide +kernel))
  have hSc : Sc b s.heap.size (some (L, xs)) s s.heap := fun L2 xs2 e => by cases e; exact ⟨hX, hbl⟩
  have hcx : Cx mL_law b s.heap.size (some (L, xs)) D p s m #[Value.ref b] meth c := ⟨hx, hb, hml, hr, hown, hlocks, fun e => absurd e (by decide), hg, hK, hAO, hSa, hSb, hSc, Nat.le_refl _⟩
  have hl := lv_entry ([.ref b]) (n := 4) (Nat.le_of_ble_eq_true rfl)
  rw [lg_entry_eq]
  generalize (lg_sl ([.ref b]) ++ List.replicate (4 - (lg_sl ([.ref b])).length) Slot.unset).toArray = ls at hl ⊢
  have hl : lv_has ls 4 [(0, .ref b)] := hl
  have hH : Hp D b s.heap.size s (0, fun _ => .inl (0, fun _ => 0)) s.heap := by
    obtain ⟨cA, -⟩ : ∃ c : ClassId, c = D.1 0 := ⟨_, rfl⟩
    exact ⟨fun _ => cA, rfl, fun i hi => absurd hi (Nat.not_lt_zero i), fun i hi => absurd hi (Nat.not_lt_zero i)⟩
  refine law_aw hL p l e s m #[Value.ref b] below meth c D b s.heap.size (some (L, xs)) (lw_Z below #[Value.ref b] s) rfl hcx ?_ (0, fun _ => .inl (0, fun _ => 0)) s.heap [] ls rfl hH va_S.rf hl
  intro pc v h H locs lsA hQ hRe hHp hS
  have hQ : v = some (.int 1) := hQ
  subst hQ
  refine va_forget (fun q hq => hS.2.2 q hq) ?_
  exact lw_ret hx hb hr hlocks hRe.1
set_option maxHeartbeats 4000000 in
theorem lw_walk (l : Launch) (hflags : l.flags = flags0) (b : Addr) (xs : List Int32) : MetFree l x (headSpec (Jvm.Cond.code x code maxLocals ret :: tables_1) room_1) (lw_P b xs) (fun _ _ _ _ _ => True) lw_Q := by
  refine MetFree.of_bodyS (code := code) (maxLocals := maxLocals) (ret := ret) (by decide) ?_ ?_
  · intro args s m h hn
    obtain ⟨meth, c, h1, h2, h3, h4, h5, h6, -, -⟩ := Cond.code_spec hn (atoms_spec (ws := Jvm.Cond.code x code maxLocals ret :: tables_1) h _ List.mem_cons_self)
    exact ⟨meth, c, h1, h2, h3, h4, h5, h6⟩
  · intro p e s m args below meth c s₁ B hml0 hP _
    obtain ⟨rfl, hx, hbd, hgv⟩ := hP
    obtain ⟨scr, harrAt, hlist, hof, hsmall⟩ := hx
    obtain ⟨hcb, hkn, -, -⟩ := State.arrayAt?_spec harrAt
    have hown : s.vm.findClass R_law = some m.cls := findClass_of_methodNamed B.named
    have hts0 : ∀ c ∈ (Jvm.Cond.code x code maxLocals ret :: tables_1), c.before #[Value.ref b] s = true := atoms_spec (ws := Jvm.Cond.code x code maxLocals ret :: tables_1) B.pre
    have hts : ∀ w ∈ lw_tbl, w.before #[Value.ref b] s = true := k2_hts_sels lw_privs (fun w hw => hts0 w (List.mem_cons_of_mem _ hw)) lw_privs_ok
    have hml : c.maxLocals = 4 := B.maxLocals_eq (hts0 _ List.mem_cons_self)
    have X₀ : Stand p l e room_1 s m #[Value.ref b] below meth c s₁ [] 0 0 := Stand.of_body B
    have hh0 : s₁.heap = s.heap := by rw [B.state]; rfl
    have hsz : scr.slots.size = xs.length := by rw [← Array.length_toList, hlist, List.length_map]
    have hval : ∀ j : Nat, j < xs.length → scr.slots[j]? = some (.int (xs.getD j 0)) := fun j hj => by
      rw [← Array.getElem?_toList, hlist]
      simp [hj]
    have hbl : b < s.heap.size := (Array.getElem?_eq_some_iff.mp hcb).1
    have hX : va_X b xs.length (fun j => xs.getD j 0) s s.heap := ⟨scr, hcb, hof, hkn, hsz, hval⟩
    have K : W p l e room_1 s m #[Value.ref b] below meth c s₁.heap [] 0 0 (lw_Z below #[Value.ref b] s) (entryFrame m ([Value.ref b] : List Value).toArray 4) := by
      rw [hh0]
      exact whole_start l hflags hbd ⟨B.exec, B.bytes, B.returns, hml, hown, hts, hX, hbl, B.notSynchronized, hgv⟩
    obtain ⟨t, a1, o, b1, b2, b3⟩ := K s₁ rfl X₀
    exact ⟨t, o, a1, b1, b2, b3⟩
theorem lw_pre_spec {args : Array Value} {s : State} (h : (Jvm.Cond.and given_1 narrow_1).before args s = true) (hr : rest_1_c.before args s = true) : ∃ (b : Addr) (xs : List Int32), lw_P b xs args s := by
  have hs := flat_of_before _ h
  have hq := flat_of_before _ hr
  have hc : (Cond.count 1).before args s = true := hs _ (by decide +kernel)
  have harr : (Cond.arrayOf (.arg 0) .int).before args s = true := hs _ (by decide +kernel)
  have hle : (Cond.le (.length (.arg 0)) (.int 3072)).before args s = true := hs _ (by decide +kernel)
  have hlen : (Cond.isInt (.length (.arg 0))).before args s = true := hq _ (by decide +kernel)
  have hall : (Cond.all (.arg 0) (.isInt (.elem (.arg 0) (.index 0)))).before args s = true := hq _ (by decide +kernel)
  obtain ⟨b, xs, hb, hx⟩ := State.ints_of_pre rfl harr hlen hall
  have hsm : xs.length < 2 ^ 31 := hx.choose_spec.2.2.2
  have hev : (Term.length (.arg 0)).eval args s none [] s = some (.int xs.length.toInt32) := hx.length_eval hb
  have hv := Cond.le_ints hev (show (Term.int 3072).eval args s none [] s = some (.int 3072) from rfl)
  have hd : xs.length.toInt32 ≤ 3072 := by
    simpa [Cond.before, Cond.holds, hv] using hle
  have hN : xs.length ≤ 3072 := (Int32.ofNat_le_ofNat hsm (by decide)).mp (show Int32.ofNat xs.length ≤ Int32.ofNat 3072 from hd)
  exact ⟨b, xs, Cond.one_arg hc (show args[0]? = some (.ref b) from hb), hx, hN, h⟩
theorem lw_comes (l : Launch) (hflags : l.flags = flags0) : Comes l x (Jvm.Cond.code x code maxLocals ret :: tables_1) room_1 (fun tb e args s => Calls_1 tb e args s ∧ rest_1 tb e args s ∧ Pre_1 tb e args s)
    (fun _ _ args s o t => lw_Q args s o t) := by
  intro p e ha hc hk s m args below hf hfit hheap happ hpre
  obtain ⟨b, xs, hP⟩ := lw_pre_spec hpre.2.2 hpre.2.1
  obtain ⟨k, o, h1, h2, h3, hQ⟩ := lw_walk l hflags b xs p e ha hc hk s m args below hf ((Spec.applies_iff_loose hf).mp happ).1 hP trivial
  exact ⟨k, o, h1, h2, h3, hQ⟩
theorem lw_frame {s t : State} {o : Outcome} {args : Array Value} (h : Framed s o t [] 600000 7302250) :
    Framed s o t (fieldLocs frame_1_writes args s ++ arrayLocs frame_1_arrays args s ++ staticLocs frame_1_statics s) 600000 7302250 := h
theorem lw_limb (L : Cond) (hL : ∀ (args : Array Value) (s t : State), L.after args s (.returned (some (.int 1))) t = true) :
    ArmFor flags0 classFile x code maxLocals ret World_1 tables_1 room_1 Calls_1 rest_1 Pre_1
      (fun tb e a s o t => postC L tb e a s o t ∧ Framed s o t (fieldLocs frame_1_writes a s ++ arrayLocs frame_1_arrays a s ++ staticLocs frame_1_statics s) 600000 7302250) := by
  intro l hflags _ _ p e ha hc hk s m args below hf hfit hheap happ hpre
  obtain ⟨k, o, h1, h2, h3, rfl, hF⟩ := lw_comes l hflags p e ha hc hk s m args below hf hfit hheap happ hpre
  exact ⟨k, _, h1, h2, h3, hL args s _, lw_frame hF⟩
theorem i_vc : Claimed_1_1 ∧ Claimed_1_2 := ⟨lw_limb limb_1_1 (fun args s t => by simp [limb_1_1, Cond.after, Cond.holds, Cond.value]), lw_limb limb_1_2 (fun args s t => Cond.after_iff.mpr (by
  first | (rw [show limb_1_2 = Cond.eq .result (.int 1) from rfl, Cond.eq_ints (x := 1) (y := 1) rfl rfl]; simp; done) | (simp [limb_1_2, Cond.value, Term.eval]; done)))⟩

