/-! CONSTRUCTORS of the class: cells are made one behind the other -/
def Gr (lo w : Nat) (h g : AH) : Prop := h.1 ≤ g.1 ∧ ∀ j, lo ≤ j → j < lo + w → g.2 j = h.2 j
theorem Gr.sub {lo w lo' w' : Nat} {h g : AH} (a : Gr lo w h g) (h1 : lo ≤ lo') (h2 : lo' + w' ≤ lo + w) : Gr lo' w' h g := ⟨a.1, fun j h3 h4 => a.2 j (by omega) (by omega)⟩
theorem RowAt.gr {r cap : Nat} {l : List Int32} {h g : AH} (q : RowAt r cap l h) (s : Gr r 2 h g) : RowAt r cap l g := by
  obtain ⟨q1, q2, q3, f, q4, q5, q6⟩ := q
  exact ⟨Nat.lt_of_lt_of_le q1 s.1, q2, q3, f, by rw [s.2 r (by omega) (by omega)]; exact q4, by rw [s.2 (r + 1) (by omega) (by omega)]; exact q5, q6⟩
theorem CeilI.gr {c : Nat} {ro st mi he le wh si ca : Int32} {wn wt : List Int32} {h g : AH} (q : CeilI c ro st mi he le wh si ca wn wt h) (s : Gr c 5 h g) : CeilI c ro st mi he le wh si ca wn wt g :=
  ⟨Nat.lt_of_lt_of_le q.1 s.1, by rw [s.2 c (by omega) (by omega)]; exact q.2.1, q.2.2.1.gr (s.sub (by omega) (by omega)), q.2.2.2.gr (s.sub (by omega) (by omega))⟩
theorem CeilK.gr {c : Nat} {K : CK} {h g : AH} (q : CeilK c K h) (s : Gr c 5 h g) : CeilK c K g := CeilI.gr q s
theorem CrewAt.gr {c : Nat} {ks ms : List Int32} {h g : AH} (q : CrewAt c ks ms h) (s : Gr c 5 h g) : CrewAt c ks ms g :=
  ⟨Nat.lt_of_lt_of_le q.1 s.1, by rw [s.2 c (by omega) (by omega)]; exact q.2.1, q.2.2.1.gr (s.sub (by omega) (by omega)), q.2.2.2.gr (s.sub (by omega) (by omega))⟩
theorem TextAt.gr {t : Nat} {use : Int32} {l : List Int32} {h g : AH} (q : TextAt t use l h) (s : Gr t 5 h g) : TextAt t use l g := by
  obtain ⟨q1, q2, q3, sk, q4⟩ := q
  exact ⟨Nat.lt_of_lt_of_le q1 s.1, by rw [s.2 t (by omega) (by omega)]; exact q2, q3.gr (s.sub (by omega) (by omega)), sk, q4.gr (s.sub (by omega) (by omega))⟩
theorem SheetAt.gr {t : Nat} {bits : Int32} {l : List Int32} {h g : AH} (q : SheetAt t bits l h) (s : Gr t 3 h g) : SheetAt t bits l g :=
  ⟨Nat.lt_of_lt_of_le q.1 s.1, by rw [s.2 t (by omega) (by omega)]; exact q.2.1, q.2.2.gr (s.sub (by omega) (by omega))⟩
theorem VoX.gr {ν : Nat} {hd : List Int32} {h g : AH} (q : VoX ν hd h) (s : Gr ν 3 h g) : VoX ν hd g := by
  obtain ⟨a, b, c, q1, q2, q3⟩ := q
  exact ⟨a, b, c, Nat.lt_of_lt_of_le q1 s.1, by rw [s.2 ν (by omega) (by omega)]; exact q2, q3.gr (s.sub (by omega) (by omega))⟩
theorem RdAny.gr {ρ : Nat} {h g : AH} (q : RdAny ρ h) (s : Gr ρ 3 h g) : RdAny ρ g := by
  obtain ⟨q1, tv, gv, a, f, l, q2, q3⟩ := q
  exact ⟨Nat.lt_of_lt_of_le q1 s.1, tv, gv, a, f, l, by rw [s.2 ρ (by omega) (by omega)]; exact q2, q3.gr (s.sub (by omega) (by omega))⟩
theorem StK.gr {s : Nat} {K : CK} {hs : List (Nat × Nat)} {lD lL tp wa : List Int32} {z : Int32} {h g : AH} (q : StK s K hs lD lL tp wa z h) (e : Gr s 25 h g) : StK s K hs lD lL tp wa z g := by
  obtain ⟨q1, q2, q3, q4, q5, q6, q7⟩ := q
  exact ⟨⟨Nat.lt_of_lt_of_le q1.1 e.1, by rw [e.2 s (by omega) (by omega)]; exact q1.2⟩, q2.gr (e.sub (by omega) (by omega)), q3.gr (e.sub (by omega) (by omega)), q4.gr (e.sub (by omega) (by omega)), q5.gr (e.sub (by omega) (by omega)), q6.gr (e.sub (by omega) (by omega)), q7.gr (e.sub (by omega) (by omega))⟩
theorem EyeK.gr {ε td : Nat} {lD lL kD kL : List Int32} {h g : AH} (q : EyeK ε td lD lL kD kL h) (e : Gr ε 5 h g) (e2 : Gr td 10 h g) : EyeK ε td lD lL kD kL g := by
  obtain ⟨q1, q2, q3, q4, q5, q6, q7⟩ := q
  exact ⟨Nat.lt_of_lt_of_le q1 e.1, by rw [e.2 ε (by omega) (by omega)]; exact q2, q3.gr (e.sub (by omega) (by omega)), q4.gr (e.sub (by omega) (by omega)), q5.gr (e2.sub (by omega) (by omega)), q6.gr (e2.sub (by omega) (by omega)), q7⟩
theorem ThAny.gr {θ ε : Nat} {h g : AH} (q : ThAny θ ε h) (e : Gr θ 18 h g) : ThAny θ ε g := by
  obtain ⟨be, K, sp, pl, bs, sb, sw, sx, q1, q2, r1, r2, r3, r4, r5, r6⟩ := q
  exact ⟨be, K, sp, pl, bs, sb, sw, sx, ⟨Nat.lt_of_lt_of_le q1.1 e.1, by rw [e.2 θ (by omega) (by omega)]; exact q1.2⟩, q2.gr (e.sub (by omega) (by omega)), r1.gr (e.sub (by omega) (by omega)), r2.gr (e.sub (by omega) (by omega)), r3.gr (e.sub (by omega) (by omega)), r4.gr (e.sub (by omega) (by omega)), r5.gr (e.sub (by omega) (by omega)), r6.gr (e.sub (by omega) (by omega))⟩
def Stb (lo hi : Nat) (C : AH → Prop) : Prop := ∀ h g : AH, h.1 ≤ g.1 → (∀ j, lo ≤ j → j < hi → g.2 j = h.2 j) → C h → C g
/-- being built at c, w cells so far: x at c itself, C of the others; below c all is as in g -/
def Bd (c w : Nat) (x : AE) (C : AH → Prop) (g g' : AH) : Prop := g'.1 = c + w ∧ (∀ j, j < c → g'.2 j = g.2 j) ∧ g'.2 c = x ∧ C g' ∧ Stb (c + 1) (c + w) C
/-- one more cell, y, just made -/
def BdN (c w : Nat) (x : AE) (C : AH → Prop) (y : AE) (g g' : AH) : Prop := g'.1 = c + w + 1 ∧ (∀ j, j < c → g'.2 j = g.2 j) ∧ g'.2 c = x ∧ C g' ∧ Stb (c + 1) (c + w) C ∧ g'.2 (c + w) = y ∧ 0 < w
section Building
variable {c w w2 w3 : Nat} {x x2 y : AE} {C D : AH → Prop} {g g' g2 : AH}
theorem Bd.cc (q : Bd c w x C g g') : C g' := q.2.2.2.1
theorem BdN.cc (q : BdN c w x C y g g') : C g' := q.2.2.2.1
theorem Bd.ob {ci : Nat} {fs : List Value} (q : Bd c w (.inr (.inr (ci, fs))) C g g') (hw : Nat.ble 1 w = true := by rfl) : c < g'.1 ∧ g'.2 c = .inr (.inr (ci, fs)) := ⟨by have := Nat.le_of_ble_eq_true hw; rw [q.1]; omega, q.2.2.1⟩
theorem BdN.ob {ci : Nat} {fs : List Value} (q : BdN c w (.inr (.inr (ci, fs))) C y g g') : c < g'.1 ∧ g'.2 c = .inr (.inr (ci, fs)) := ⟨by rw [q.1]; omega, q.2.2.1⟩
theorem Bd.new (q : Bd c w x C g g') (hw : Nat.ble 1 w = true := by rfl) : BdN c w x C y g (hnew g' y) := by
  have h1 := Nat.le_of_ble_eq_true hw
  obtain ⟨q1, q2, q3, q4, q5⟩ := q
  have ne : ∀ j, j < c + w → (hnew g' y).2 j = g'.2 j := fun j hj => if_neg (by omega)
  exact ⟨by show g'.1 + 1 = _; omega, fun j hj => by rw [ne j (by omega)]; exact q2 j hj, by rw [ne c (by omega)]; exact q3, q5 g' _ (Nat.le_succ _) (fun j h1 h2 => ne j h2) q4, q5, if_pos q1.symm, h1⟩
theorem BdN.sz (q : BdN c w x C y g g') : c + w + 1 = g'.1 := q.1.symm
theorem BdN.top (q : BdN c w x C y g g') : g'.2 (c + w) = y := q.2.2.2.2.2.1
theorem BdN.call (q : BdN c w x C y g g') (hw : w3 = w + w2) (d : D g2) (h1 : g2.1 = c + w + w2) (h2 : ∀ j, j < c + w → g2.2 j = g'.2 j) (hs : Stb (c + 1) (c + w3) D) (h0 : Nat.ble 1 w2 = true := by rfl) : Bd c w3 x (fun g => C g ∧ D g) g g2 := by
  obtain ⟨q1, q2, q3, q4, q5, q6, q7⟩ := q
  subst hw
  have h0 := Nat.le_of_ble_eq_true h0
  have hle : g'.1 ≤ g2.1 := by omega
  exact ⟨by omega, fun j hj => by rw [h2 j (by omega)]; exact q2 j hj, by rw [h2 c (by omega)]; exact q3, ⟨q5 g' g2 hle (fun j a b => h2 j b) q4, d⟩, fun h k a b z => ⟨q5 h k a (fun j c1 c2 => b j c1 (by omega)) z.1, hs h k a b z.2⟩⟩
theorem Bd.ar (q : Bd c w x C g g') (hw : Nat.ble 1 w = true := by rfl) : c < g'.1 ∧ g'.2 c = x := ⟨by have := Nat.le_of_ble_eq_true hw; rw [q.1]; omega, q.2.2.1⟩
theorem Bd.put (q : Bd c w x C g g') : Bd c w x2 C g (hset g' c x2) :=
  ⟨q.1, fun j hj => by rw [hset_ne _ _ (by omega)]; exact q.2.1 j hj, hset_same _ _ _, q.2.2.2.2 g' _ (Nat.le_refl _) (fun j a b => hset_ne _ _ (by omega)) q.2.2.2.1, q.2.2.2.2⟩
end Building
theorem r_ini {XS : XT → Prop} {R : Room} {μ : MI} {kc ks pc : Nat} {ls : List (Option Value)} {st : List Value} {P P' : AH → Prop} {Q : Option Value → AH → Prop} {idx n d mc ms a : Nat} {μ' : MI} {as rest : List Value} (hf : decode μ.2.1 pc = .ok (.invokespecial idx, 3)) (hl : Cond.methodLink μ.1.cls idx μ'.1 ∈ lw_g) (hs : Cond.instanceMethod μ'.1 ∈ lw_g) (hnm : μ'.1.name = "<init>") (hnr : μ'.2.2.2.1 = none) (hk : Lk μ' n) (hp : popn n st [] = (as, .ref a :: rest)) (hn : as.length = n) (hR : Rr R d μ') (hW : Nat.ble (catS rest) 8 = true) (hm : kc + mc ≤ R.cells ∧ ks + ms ≤ R.slots)
    (hct : ∀ h, P h → CT d mc ms μ' (.ref a :: as) h (fun v g => v = none ∧ P' g)) (kk : AW XS R μ (kc + mc) (ks + ms) (pc + 3) ls rest P' Q) : AW XS R μ kc ks pc ls st P Q :=
  r_invI as rest hf hl hs hnm hnr hk hn (popn_st hp) hR (by rw [catS_ok]; exact Nat.le_of_ble_eq_true hW) hm hct (fun v => aw_pr fun e => by subst e; exact kk)
theorem ct_Row_init2 {r cap : Nat} {g : AH} (hc : cap ≤ 4000) (hr : r + 1 = g.1) (ho : g.2 r = .inr (.inr (4, [.null, .int 0]))) : CT 2 1 cap mX5_init [.ref r, .int (nI cap)] g (fun v g' => v = none ∧ RowAt r cap [] g' ∧ g'.1 = r + 2 ∧ ∀ j, j < r → g'.2 j = g.2 j) := (ct_Row_init hc hr ho).mono (fun v g2 x => ⟨x.1, x.2.1, by have := x.2.2.1; omega, x.2.2.2⟩)
def K0 : CK := (4, 4, 0, 3, 20, 0, 20, 0, fun _ _ => -1, fun _ _ => 0)
theorem dfX0 : ∀ (b base j : Nat), j < 10 → defaultValue (tyX0 j) = vp_V (([.null, .null, .int 0, .int 0, .int 0, .int 0, .int 0, .int 0, .int 0, .int 0] : List Value).map (cv b base)) j := fun b base j h => match j, h with
  | 0, _ => rfl
  | 1, _ => rfl
  | 2, _ => rfl
  | 3, _ => rfl
  | 4, _ => rfl
  | 5, _ => rfl
  | 6, _ => rfl
  | 7, _ => rfl
  | 8, _ => rfl
  | 9, _ => rfl
  | k + 10, h => absurd h (by omega)
theorem dfX1 : ∀ (b base j : Nat), j < 2 → defaultValue (tyX1 j) = vp_V (([.null, .null] : List Value).map (cv b base)) j := fun b base j h => match j, h with
  | 0, _ => rfl
  | 1, _ => rfl
  | k + 2, h => absurd h (by omega)
theorem dfX2 : ∀ (b base j : Nat), j < 4 → defaultValue (tyX2 j) = vp_V (([.null, .null, .null, .null] : List Value).map (cv b base)) j := fun b base j h => match j, h with
  | 0, _ => rfl
  | 1, _ => rfl
  | 2, _ => rfl
  | 3, _ => rfl
  | k + 4, h => absurd h (by omega)
theorem dfX4 : ∀ (b base j : Nat), j < 5 → defaultValue (tyX4 j) = vp_V (([.null, .null, .null, .int 0, .int 0] : List Value).map (cv b base)) j := fun b base j h => match j, h with
  | 0, _ => rfl
  | 1, _ => rfl
  | 2, _ => rfl
  | 3, _ => rfl
  | 4, _ => rfl
  | k + 5, h => absurd h (by omega)
theorem dfX5 : ∀ (b base j : Nat), j < 2 → defaultValue (tyX5 j) = vp_V (([.null, .int 0] : List Value).map (cv b base)) j := fun b base j h => match j, h with
  | 0, _ => rfl
  | 1, _ => rfl
  | k + 2, h => absurd h (by omega)
theorem dfX6 : ∀ (b base j : Nat), j < 2 → defaultValue (tyX6 j) = vp_V (([.null, .int 0] : List Value).map (cv b base)) j := fun b base j h => match j, h with
  | 0, _ => rfl
  | 1, _ => rfl
  | k + 2, h => absurd h (by omega)
theorem dfX7 : ∀ (b base j : Nat), j < 7 → defaultValue (tyX7 j) = vp_V (([.null, .null, .null, .null, .null, .null, .int 0] : List Value).map (cv b base)) j := fun b base j h => match j, h with
  | 0, _ => rfl
  | 1, _ => rfl
  | 2, _ => rfl
  | 3, _ => rfl
  | 4, _ => rfl
  | 5, _ => rfl
  | 6, _ => rfl
  | k + 7, h => absurd h (by omega)
theorem dfX8 : ∀ (b base j : Nat), j < 3 → defaultValue (tyX8 j) = vp_V (([.int 0, .null, .null] : List Value).map (cv b base)) j := fun b base j h => match j, h with
  | 0, _ => rfl
  | 1, _ => rfl
  | 2, _ => rfl
  | k + 3, h => absurd h (by omega)
theorem dfX9 : ∀ (b base j : Nat), j < 9 → defaultValue (tyX9 j) = vp_V (([.null, .null, .null, .null, .null, .null, .null, .null, .int 0] : List Value).map (cv b base)) j := fun b base j h => match j, h with
  | 0, _ => rfl
  | 1, _ => rfl
  | 2, _ => rfl
  | 3, _ => rfl
  | 4, _ => rfl
  | 5, _ => rfl
  | 6, _ => rfl
  | 7, _ => rfl
  | 8, _ => rfl
  | k + 9, h => absurd h (by omega)
theorem dfX10 : ∀ (b base j : Nat), j < 4 → defaultValue (tyX10 j) = vp_V (([.null, .int 0, .int 0, .int 0] : List Value).map (cv b base)) j := fun b base j h => match j, h with
  | 0, _ => rfl
  | 1, _ => rfl
  | 2, _ => rfl
  | 3, _ => rfl
  | k + 4, h => absurd h (by omega)
theorem dfX11 : ∀ (b base j : Nat), j < 9 → defaultValue (tyX11 j) = vp_V (([.null, .null, .null, .null, .null, .null, .null, .null, .int 0] : List Value).map (cv b base)) j := fun b base j h => match j, h with
  | 0, _ => rfl
  | 1, _ => rfl
  | 2, _ => rfl
  | 3, _ => rfl
  | 4, _ => rfl
  | 5, _ => rfl
  | 6, _ => rfl
  | 7, _ => rfl
  | 8, _ => rfl
  | k + 9, h => absurd h (by omega)
theorem dfX12 : ∀ (b base j : Nat), j < 30 → defaultValue (tyX12 j) = vp_V (([.null, .null, .null, .null, .int 0, .int 0, .null, .null, .null, .int 0, .int 0, .int 0, .int 0, .int 0, .int 0, .int 0, .int 0, .int 0, .int 0, .null, .null, .null, .null, .null, .null, .null, .int 0, .int 0, .int 0, .int 0] : List Value).map (cv b base)) j := fun b base j h => match j, h with
  | 0, _ => rfl
  | 1, _ => rfl
  | 2, _ => rfl
  | 3, _ => rfl
  | 4, _ => rfl
  | 5, _ => rfl
  | 6, _ => rfl
  | 7, _ => rfl
  | 8, _ => rfl
  | 9, _ => rfl
  | 10, _ => rfl
  | 11, _ => rfl
  | 12, _ => rfl
  | 13, _ => rfl
  | 14, _ => rfl
  | 15, _ => rfl
  | 16, _ => rfl
  | 17, _ => rfl
  | 18, _ => rfl
  | 19, _ => rfl
  | 20, _ => rfl
  | 21, _ => rfl
  | 22, _ => rfl
  | 23, _ => rfl
  | 24, _ => rfl
  | 25, _ => rfl
  | 26, _ => rfl
  | 27, _ => rfl
  | 28, _ => rfl
  | 29, _ => rfl
  | k + 30, h => absurd h (by omega)
set_option maxHeartbeats 8000000 in
theorem ct_Crew_init {c : Nat}  {g : AH} (hr : c + 1 = g.1) (ho : g.2 c = .inr (.inr (1, [.null, .null]))) : CT 4 4 16 mX1_init [.ref c] g (fun v g' => v = none ∧ CrewAt c [] [] g' ∧ g'.1 = c + 5 ∧ ∀ j, j < c → g'.2 j = g.2 j) := by
  refine ct_of (by decide) (fun _ _ => Nat.le_of_ble_eq_true rfl) ?_
  dsimp only [pad, ent]
  refine aw_P (P' := Bd c 1 (.inr (.inr (1, [.null, .null]))) (fun _ => True) g) (fun g' e => by subst e; exact ⟨hr.symm, fun _ _ => rfl, ho, trivial, fun _ _ _ _ _ => trivial⟩) ?_
  refine r_aload_n (pc := 0) dX1_init_0 rfl ?_
  refine r_objInit (pc := 1) dX1_init_1 nX1_1 oi_i oi_c ⟨(Nat.le_of_ble_eq_true rfl), (Nat.le_of_ble_eq_true rfl)⟩ (Nat.le_of_ble_eq_true rfl) ?_
  refine r_aload_n (pc := 4) dX1_init_4 rfl ?_
  refine r_new (pc := 5) (n := c + 1) (P' := BdN c 1 (.inr (.inr (1, [.null, .null]))) (fun _ => True) (.inr (.inr (4, [.null, .int 0]))) g) tyX5 dX1_init_5 hX5 tyX5_ok eX5 cX1_7 aX5 zX5 dfX5 (Nat.le_of_ble_eq_true rfl) (Nat.le_of_ble_eq_true rfl) (fun _ q => q.1) (fun _ q => q.new) ?_
  refine r_dup (pc := 8) dX1_init_8 rfl ?_
  refine r_bipush (pc := 9) (v := 6) dX1_init_9 (by decide) ?_
  rw [show Value.int 6 = .int (nI 6) from rfl]
  refine r_ini (pc := 11) (μ' := mX5_init) (P' := Bd c 3 (.inr (.inr (1, [.null, .null]))) (fun g => (fun _ => True) g ∧ RowAt (c + 1) 6 [] g) g) dX1_init_11 nX1_11 iX5_init rfl rfl kX5_init rfl rfl (rr (by decide) rfl) rfl ⟨(Nat.le_of_ble_eq_true rfl), (Nat.le_of_ble_eq_true rfl)⟩ (fun _ q => (ct_Row_init2 (r := c + 1) (cap := 6) (by decide) q.sz q.top).mono (fun v g2 x => ⟨x.1, q.call (w2 := 2) rfl x.2.1 x.2.2.1 x.2.2.2 (fun _ _ s1 s2 q => q.gr ⟨s1, fun j h1 h2 => s2 j (by omega) (by omega)⟩)⟩)) ?_
  refine r_putF (pc := 14) (k := 0) (P' := Bd c 3 (.inr (.inr (1, [.ref (c + 1), .null]))) (fun g => (fun _ => True) g ∧ RowAt (c + 1) 6 [] g) g) tyX1 dX1_init_14 hX1 tyX1_ok nmX1 eX1 (by decide) fX1_14 rfl rfl rfl rfl (fun _ _ => rfl) (fun _ _ => rfl) (Nat.le_of_ble_eq_true rfl) (fun _ q => q.ob) (fun _ q => q.put) ?_
  refine r_aload_n (pc := 17) dX1_init_17 rfl ?_
  refine r_new (pc := 18) (n := c + 3) (P' := BdN c 3 (.inr (.inr (1, [.ref (c + 1), .null]))) (fun g => (fun _ => True) g ∧ RowAt (c + 1) 6 [] g) (.inr (.inr (4, [.null, .int 0]))) g) tyX5 dX1_init_18 hX5 tyX5_ok eX5 cX1_7 aX5 zX5 dfX5 (Nat.le_of_ble_eq_true rfl) (Nat.le_of_ble_eq_true rfl) (fun _ q => q.1) (fun _ q => q.new) ?_
  refine r_dup (pc := 21) dX1_init_21 rfl ?_
  refine r_bipush (pc := 22) (v := 6) dX1_init_22 (by decide) ?_
  rw [show Value.int 6 = .int (nI 6) from rfl]
  refine r_ini (pc := 24) (μ' := mX5_init) (P' := Bd c 5 (.inr (.inr (1, [.ref (c + 1), .null]))) (fun g => (fun g => (fun _ => True) g ∧ RowAt (c + 1) 6 [] g) g ∧ RowAt (c + 3) 6 [] g) g) dX1_init_24 nX1_11 iX5_init rfl rfl kX5_init rfl rfl (rr (by decide) rfl) rfl ⟨(Nat.le_of_ble_eq_true rfl), (Nat.le_of_ble_eq_true rfl)⟩ (fun _ q => (ct_Row_init2 (r := c + 3) (cap := 6) (by decide) q.sz q.top).mono (fun v g2 x => ⟨x.1, q.call (w2 := 2) rfl x.2.1 x.2.2.1 x.2.2.2 (fun _ _ s1 s2 q => q.gr ⟨s1, fun j h1 h2 => s2 j (by omega) (by omega)⟩)⟩)) ?_
  refine r_putF (pc := 27) (k := 1) (P' := Bd c 5 (.inr (.inr (1, [.ref (c + 1), .ref (c + 3)]))) (fun g => (fun g => (fun _ => True) g ∧ RowAt (c + 1) 6 [] g) g ∧ RowAt (c + 3) 6 [] g) g) tyX1 dX1_init_27 hX1 tyX1_ok nmX1 eX1 (by decide) fX1_18 rfl rfl rfl rfl (fun _ _ => rfl) (fun _ _ => rfl) (Nat.le_of_ble_eq_true rfl) (fun _ q => q.ob) (fun _ q => q.put) ?_
  refine r_return (pc := 30) dX1_init_30 rfl ⟨(Nat.le_of_ble_eq_true rfl), (Nat.le_of_ble_eq_true rfl)⟩ (fun gE hg => ?_)
  exact ⟨rfl, ⟨hg.ob.1, hg.ob.2, hg.cc.1.2, hg.cc.2⟩, hg.1, hg.2.1⟩
set_option maxHeartbeats 8000000 in
theorem ct_Ceil_init {c : Nat} {g : AH} (hr : c + 1 = g.1) (ho : g.2 c = .inr (.inr (0, [.null, .null, .int 0, .int 0, .int 0, .int 0, .int 0, .int 0, .int 0, .int 0]))) : CT 5 4 76 mX0_init [.ref c] g (fun v g' => v = none ∧ CeilK c K0 g' ∧ g'.1 = c + 5 ∧ ∀ j, j < c → g'.2 j = g.2 j) := by
  refine ct_of (by decide) (fun _ _ => Nat.le_of_ble_eq_true rfl) ?_
  dsimp only [pad, ent]
  refine aw_P (P' := Bd c 1 (.inr (.inr (0, [.null, .null, .int 0, .int 0, .int 0, .int 0, .int 0, .int 0, .int 0, .int 0]))) (fun _ => True) g) (fun g' e => by subst e; exact ⟨hr.symm, fun _ _ => rfl, ho, trivial, fun _ _ _ _ _ => trivial⟩) ?_
  refine r_aload_n (pc := 0) dX0_init_0 rfl ?_
  refine r_objInit (pc := 1) dX0_init_1 nX0_1 oi_i oi_c ⟨(Nat.le_of_ble_eq_true rfl), (Nat.le_of_ble_eq_true rfl)⟩ (Nat.le_of_ble_eq_true rfl) ?_
  refine r_aload_n (pc := 4) dX0_init_4 rfl ?_
  refine r_new (pc := 5) (n := c + 1) (P' := BdN c 1 (.inr (.inr (0, [.null, .null, .int 0, .int 0, .int 0, .int 0, .int 0, .int 0, .int 0, .int 0]))) (fun _ => True) (.inr (.inr (4, [.null, .int 0]))) g) tyX5 dX0_init_5 hX5 tyX5_ok eX5 cX0_7 aX5 zX5 dfX5 (Nat.le_of_ble_eq_true rfl) (Nat.le_of_ble_eq_true rfl) (fun _ q => q.1) (fun _ q => q.new) ?_
  refine r_dup (pc := 8) dX0_init_8 rfl ?_
  refine r_bipush (pc := 9) (v := 36) dX0_init_9 (by decide) ?_
  rw [show Value.int 36 = .int (nI 36) from rfl]
  refine r_ini (pc := 11) (μ' := mX5_init) (P' := Bd c 3 (.inr (.inr (0, [.null, .null, .int 0, .int 0, .int 0, .int 0, .int 0, .int 0, .int 0, .int 0]))) (fun g => (fun _ => True) g ∧ RowAt (c + 1) 36 [] g) g) dX0_init_11 nX0_11 iX5_init rfl rfl kX5_init rfl rfl (rr (by decide) rfl) rfl ⟨(Nat.le_of_ble_eq_true rfl), (Nat.le_of_ble_eq_true rfl)⟩ (fun _ q => (ct_Row_init2 (r := c + 1) (cap := 36) (by decide) q.sz q.top).mono (fun v g2 x => ⟨x.1, q.call (w2 := 2) rfl x.2.1 x.2.2.1 x.2.2.2 (fun _ _ s1 s2 q => q.gr ⟨s1, fun j h1 h2 => s2 j (by omega) (by omega)⟩)⟩)) ?_
  refine r_putF (pc := 14) (k := 0) (P' := Bd c 3 (.inr (.inr (0, [.ref (c + 1), .null, .int 0, .int 0, .int 0, .int 0, .int 0, .int 0, .int 0, .int 0]))) (fun g => (fun _ => True) g ∧ RowAt (c + 1) 36 [] g) g) tyX0 dX0_init_14 hX0 tyX0_ok nmX0 eX0 (by decide) fX0_14 rfl rfl rfl rfl (fun _ _ => rfl) (fun _ _ => rfl) (Nat.le_of_ble_eq_true rfl) (fun _ q => q.ob) (fun _ q => q.put) ?_
  refine r_aload_n (pc := 17) dX0_init_17 rfl ?_
  refine r_new (pc := 18) (n := c + 3) (P' := BdN c 3 (.inr (.inr (0, [.ref (c + 1), .null, .int 0, .int 0, .int 0, .int 0, .int 0, .int 0, .int 0, .int 0]))) (fun g => (fun _ => True) g ∧ RowAt (c + 1) 36 [] g) (.inr (.inr (4, [.null, .int 0]))) g) tyX5 dX0_init_18 hX5 tyX5_ok eX5 cX0_7 aX5 zX5 dfX5 (Nat.le_of_ble_eq_true rfl) (Nat.le_of_ble_eq_true rfl) (fun _ q => q.1) (fun _ q => q.new) ?_
  refine r_dup (pc := 21) dX0_init_21 rfl ?_
  refine r_bipush (pc := 22) (v := 36) dX0_init_22 (by decide) ?_
  rw [show Value.int 36 = .int (nI 36) from rfl]
  refine r_ini (pc := 24) (μ' := mX5_init) (P' := Bd c 5 (.inr (.inr (0, [.ref (c + 1), .null, .int 0, .int 0, .int 0, .int 0, .int 0, .int 0, .int 0, .int 0]))) (fun g => (fun g => (fun _ => True) g ∧ RowAt (c + 1) 36 [] g) g ∧ RowAt (c + 3) 36 [] g) g) dX0_init_24 nX0_11 iX5_init rfl rfl kX5_init rfl rfl (rr (by decide) rfl) rfl ⟨(Nat.le_of_ble_eq_true rfl), (Nat.le_of_ble_eq_true rfl)⟩ (fun _ q => (ct_Row_init2 (r := c + 3) (cap := 36) (by decide) q.sz q.top).mono (fun v g2 x => ⟨x.1, q.call (w2 := 2) rfl x.2.1 x.2.2.1 x.2.2.2 (fun _ _ s1 s2 q => q.gr ⟨s1, fun j h1 h2 => s2 j (by omega) (by omega)⟩)⟩)) ?_
  refine r_putF (pc := 27) (k := 1) (P' := Bd c 5 (.inr (.inr (0, [.ref (c + 1), .ref (c + 3), .int 0, .int 0, .int 0, .int 0, .int 0, .int 0, .int 0, .int 0]))) (fun g => (fun g => (fun _ => True) g ∧ RowAt (c + 1) 36 [] g) g ∧ RowAt (c + 3) 36 [] g) g) tyX0 dX0_init_27 hX0 tyX0_ok nmX0 eX0 (by decide) fX0_18 rfl rfl rfl rfl (fun _ _ => rfl) (fun _ _ => rfl) (Nat.le_of_ble_eq_true rfl) (fun _ q => q.ob) (fun _ q => q.put) ?_
  refine r_aload_n (pc := 30) dX0_init_30 rfl ?_
  refine r_iconst (pc := 31) (v := 4) dX0_init_31 (by decide) ?_
  refine r_putf (pc := 32) (k := 2) (P' := Bd c 5 (.inr (.inr (0, [.ref (c + 1), .ref (c + 3), .int 4, .int 0, .int 0, .int 0, .int 0, .int 0, .int 0, .int 0]))) (fun g => (fun g => (fun _ => True) g ∧ RowAt (c + 1) 36 [] g) g ∧ RowAt (c + 3) 36 [] g) g) tyX0 dX0_init_32 hX0 tyX0_ok nmX0 eX0 (by decide) fX0_21 rfl rfl (fun _ _ => rfl) (fun _ _ => rfl) (Nat.le_of_ble_eq_true rfl) (fun _ q => q.ob) (fun _ q => q.put) ?_
  refine r_aload_n (pc := 35) dX0_init_35 rfl ?_
  refine r_iconst (pc := 36) (v := 4) dX0_init_36 (by decide) ?_
  refine r_putf (pc := 37) (k := 3) (P' := Bd c 5 (.inr (.inr (0, [.ref (c + 1), .ref (c + 3), .int 4, .int 4, .int 0, .int 0, .int 0, .int 0, .int 0, .int 0]))) (fun g => (fun g => (fun _ => True) g ∧ RowAt (c + 1) 36 [] g) g ∧ RowAt (c + 3) 36 [] g) g) tyX0 dX0_init_37 hX0 tyX0_ok nmX0 eX0 (by decide) fX0_25 rfl rfl (fun _ _ => rfl) (fun _ _ => rfl) (Nat.le_of_ble_eq_true rfl) (fun _ q => q.ob) (fun _ q => q.put) ?_
  refine r_aload_n (pc := 40) dX0_init_40 rfl ?_
  refine r_iconst (pc := 41) (v := 0) dX0_init_41 (by decide) ?_
  refine r_putf (pc := 42) (k := 4) (P' := Bd c 5 (.inr (.inr (0, [.ref (c + 1), .ref (c + 3), .int 4, .int 4, .int 0, .int 0, .int 0, .int 0, .int 0, .int 0]))) (fun g => (fun g => (fun _ => True) g ∧ RowAt (c + 1) 36 [] g) g ∧ RowAt (c + 3) 36 [] g) g) tyX0 dX0_init_42 hX0 tyX0_ok nmX0 eX0 (by decide) fX0_28 rfl rfl (fun _ _ => rfl) (fun _ _ => rfl) (Nat.le_of_ble_eq_true rfl) (fun _ q => q.ob) (fun _ q => q.put) ?_
  refine r_aload_n (pc := 45) dX0_init_45 rfl ?_
  refine r_iconst (pc := 46) (v := 3) dX0_init_46 (by decide) ?_
  refine r_putf (pc := 47) (k := 5) (P' := Bd c 5 (.inr (.inr (0, [.ref (c + 1), .ref (c + 3), .int 4, .int 4, .int 0, .int 3, .int 0, .int 0, .int 0, .int 0]))) (fun g => (fun g => (fun _ => True) g ∧ RowAt (c + 1) 36 [] g) g ∧ RowAt (c + 3) 36 [] g) g) tyX0 dX0_init_47 hX0 tyX0_ok nmX0 eX0 (by decide) fX0_31 rfl rfl (fun _ _ => rfl) (fun _ _ => rfl) (Nat.le_of_ble_eq_true rfl) (fun _ q => q.ob) (fun _ q => q.put) ?_
  refine r_aload_n (pc := 50) dX0_init_50 rfl ?_
  refine r_bipush (pc := 51) (v := 20) dX0_init_51 (by decide) ?_
  refine r_putf (pc := 53) (k := 6) (P' := Bd c 5 (.inr (.inr (0, [.ref (c + 1), .ref (c + 3), .int 4, .int 4, .int 0, .int 3, .int 20, .int 0, .int 0, .int 0]))) (fun g => (fun g => (fun _ => True) g ∧ RowAt (c + 1) 36 [] g) g ∧ RowAt (c + 3) 36 [] g) g) tyX0 dX0_init_53 hX0 tyX0_ok nmX0 eX0 (by decide) fX0_34 rfl rfl (fun _ _ => rfl) (fun _ _ => rfl) (Nat.le_of_ble_eq_true rfl) (fun _ q => q.ob) (fun _ q => q.put) ?_
  refine r_aload_n (pc := 56) dX0_init_56 rfl ?_
  refine r_iconst (pc := 57) (v := 0) dX0_init_57 (by decide) ?_
  refine r_putf (pc := 58) (k := 7) (P' := Bd c 5 (.inr (.inr (0, [.ref (c + 1), .ref (c + 3), .int 4, .int 4, .int 0, .int 3, .int 20, .int 0, .int 0, .int 0]))) (fun g => (fun g => (fun _ => True) g ∧ RowAt (c + 1) 36 [] g) g ∧ RowAt (c + 3) 36 [] g) g) tyX0 dX0_init_58 hX0 tyX0_ok nmX0 eX0 (by decide) fX0_37 rfl rfl (fun _ _ => rfl) (fun _ _ => rfl) (Nat.le_of_ble_eq_true rfl) (fun _ q => q.ob) (fun _ q => q.put) ?_
  refine r_aload_n (pc := 61) dX0_init_61 rfl ?_
  refine r_bipush (pc := 62) (v := 20) dX0_init_62 (by decide) ?_
  refine r_putf (pc := 64) (k := 8) (P' := Bd c 5 (.inr (.inr (0, [.ref (c + 1), .ref (c + 3), .int 4, .int 4, .int 0, .int 3, .int 20, .int 0, .int 20, .int 0]))) (fun g => (fun g => (fun _ => True) g ∧ RowAt (c + 1) 36 [] g) g ∧ RowAt (c + 3) 36 [] g) g) tyX0 dX0_init_64 hX0 tyX0_ok nmX0 eX0 (by decide) fX0_40 rfl rfl (fun _ _ => rfl) (fun _ _ => rfl) (Nat.le_of_ble_eq_true rfl) (fun _ q => q.ob) (fun _ q => q.put) ?_
  refine r_aload_n (pc := 67) dX0_init_67 rfl ?_
  refine r_iconst (pc := 68) (v := 0) dX0_init_68 (by decide) ?_
  refine r_putf (pc := 69) (k := 9) (P' := Bd c 5 (.inr (.inr (0, [.ref (c + 1), .ref (c + 3), .int 4, .int 4, .int 0, .int 3, .int 20, .int 0, .int 20, .int 0]))) (fun g => (fun g => (fun _ => True) g ∧ RowAt (c + 1) 36 [] g) g ∧ RowAt (c + 3) 36 [] g) g) tyX0 dX0_init_69 hX0 tyX0_ok nmX0 eX0 (by decide) fX0_43 rfl rfl (fun _ _ => rfl) (fun _ _ => rfl) (Nat.le_of_ble_eq_true rfl) (fun _ q => q.ob) (fun _ q => q.put) ?_
  have e1 : CeilK c K0 = CeilI c 4 4 0 3 20 0 20 0 (List.replicate (4 * 4) (-1)) (List.replicate (4 * 4) 0) := by
    unfold CeilK K0
    dsimp only
    rw [rep_tab, rep_tab]
    rfl
  have e2 : clampI (4 * 4) 36 = 4 * 4 := by decide
  refine aw_P (P' := fun g' => CeilI c 4 4 0 3 20 0 20 0 [] [] g' ∧ g'.1 = c + 5 ∧ ∀ j, j < c → g'.2 j = g.2 j) (fun g' q => ⟨⟨q.ob.1, q.ob.2, q.cc.1.2, q.cc.2⟩, q.1, q.2.1⟩) ?_
  refine r_aload_n (pc := 72) dX0_init_72 rfl ?_
  refine r_getf (pc := 73) (k := 0) dX0_init_73 hX0 eX0 (by decide) fX0_14 (fun _ q => q.1.o) rfl ?_
  refine r_aload_n (pc := 76) dX0_init_76 rfl ?_
  refine r_getf (pc := 77) (k := 2) dX0_init_77 hX0 eX0 (by decide) fX0_21 (fun _ q => q.1.o) rfl ?_
  refine r_aload_n (pc := 80) dX0_init_80 rfl ?_
  refine r_getf (pc := 81) (k := 3) dX0_init_81 hX0 eX0 (by decide) fX0_25 (fun _ q => q.1.o) rfl ?_
  refine r_imul (pc := 84) dX0_init_84 ?_
  refine r_iconst (pc := 85) (v := (-1)) dX0_init_85 (by decide) ?_
  refine r_Vv (pc := 86) (μ' := mX5_fill) dX0_init_86 nX0_46 iX5_fill vX5_fill kX5_fill rfl rfl (rr (by decide) rfl) rfl ⟨(Nat.le_of_ble_eq_true rfl), (Nat.le_of_ble_eq_true rfl)⟩ (fun g' q => ct_Row_fill (P' := fun g2 => CeilI c 4 4 0 3 20 0 20 0 (List.replicate (4 * 4) (-1)) [] g2 ∧ g2.1 = c + 5 ∧ ∀ j, j < c → g2.2 j = g.2 j) q.1.2.2.1 (fun g2 x y => ⟨q.1.setN (by rw [e2] at x; exact x) y, by rw [y.1]; exact q.2.1, fun j hj => by rw [y.2 j (by omega)]; exact q.2.2 j hj⟩)) ?_
  refine r_aload_n (pc := 89) dX0_init_89 rfl ?_
  refine r_getf (pc := 90) (k := 1) dX0_init_90 hX0 eX0 (by decide) fX0_18 (fun _ q => q.1.o) rfl ?_
  refine r_aload_n (pc := 93) dX0_init_93 rfl ?_
  refine r_getf (pc := 94) (k := 2) dX0_init_94 hX0 eX0 (by decide) fX0_21 (fun _ q => q.1.o) rfl ?_
  refine r_aload_n (pc := 97) dX0_init_97 rfl ?_
  refine r_getf (pc := 98) (k := 3) dX0_init_98 hX0 eX0 (by decide) fX0_25 (fun _ q => q.1.o) rfl ?_
  refine r_imul (pc := 101) dX0_init_101 ?_
  refine r_iconst (pc := 102) (v := 0) dX0_init_102 (by decide) ?_
  refine r_Vv (pc := 103) (μ' := mX5_fill) dX0_init_103 nX0_46 iX5_fill vX5_fill kX5_fill rfl rfl (rr (by decide) rfl) rfl ⟨(Nat.le_of_ble_eq_true rfl), (Nat.le_of_ble_eq_true rfl)⟩ (fun g' q => ct_Row_fill (P' := fun g2 => CeilI c 4 4 0 3 20 0 20 0 (List.replicate (4 * 4) (-1)) (List.replicate (4 * 4) 0) g2 ∧ g2.1 = c + 5 ∧ ∀ j, j < c → g2.2 j = g.2 j) q.1.2.2.2 (fun g2 x y => ⟨q.1.setT (by rw [e2] at x; exact x) y, by rw [y.1]; exact q.2.1, fun j hj => by rw [y.2 j (by omega)]; exact q.2.2 j hj⟩)) ?_
  refine r_return (pc := 106) dX0_init_106 rfl ⟨(Nat.le_of_ble_eq_true rfl), (Nat.le_of_ble_eq_true rfl)⟩ (fun gE hg => ?_)
  skip
  rw [e1]
  exact ⟨rfl, hg⟩
set_option maxHeartbeats 8000000 in
theorem ct_Text_init {c : Nat} {use : Int32} {g : AH} (hr : c + 1 = g.1) (ho : g.2 c = .inr (.inr (7, [.int 0, .null, .null]))) : CT 4 4 104 mX8_init [.ref c, .int use] g (fun v g' => v = none ∧ TextAt c use [] g' ∧ g'.1 = c + 5 ∧ ∀ j, j < c → g'.2 j = g.2 j) := by
  refine ct_of (by decide) (fun _ _ => Nat.le_of_ble_eq_true rfl) ?_
  dsimp only [pad, ent]
  refine aw_P (P' := Bd c 1 (.inr (.inr (7, [.int 0, .null, .null]))) (fun _ => True) g) (fun g' e => by subst e; exact ⟨hr.symm, fun _ _ => rfl, ho, trivial, fun _ _ _ _ _ => trivial⟩) ?_
  refine r_aload_n (pc := 0) dX8_init_0 rfl ?_
  refine r_objInit (pc := 1) dX8_init_1 nX8_1 oi_i oi_c ⟨(Nat.le_of_ble_eq_true rfl), (Nat.le_of_ble_eq_true rfl)⟩ (Nat.le_of_ble_eq_true rfl) ?_
  refine r_aload_n (pc := 4) dX8_init_4 rfl ?_
  refine r_new (pc := 5) (n := c + 1) (P' := BdN c 1 (.inr (.inr (7, [.int 0, .null, .null]))) (fun _ => True) (.inr (.inr (4, [.null, .int 0]))) g) tyX5 dX8_init_5 hX5 tyX5_ok eX5 cX8_7 aX5 zX5 dfX5 (Nat.le_of_ble_eq_true rfl) (Nat.le_of_ble_eq_true rfl) (fun _ q => q.1) (fun _ q => q.new) ?_
  refine r_dup (pc := 8) dX8_init_8 rfl ?_
  refine r_bipush (pc := 9) (v := 50) dX8_init_9 (by decide) ?_
  rw [show Value.int 50 = .int (nI 50) from rfl]
  refine r_ini (pc := 11) (μ' := mX5_init) (P' := Bd c 3 (.inr (.inr (7, [.int 0, .null, .null]))) (fun g => (fun _ => True) g ∧ RowAt (c + 1) 50 [] g) g) dX8_init_11 nX8_11 iX5_init rfl rfl kX5_init rfl rfl (rr (by decide) rfl) rfl ⟨(Nat.le_of_ble_eq_true rfl), (Nat.le_of_ble_eq_true rfl)⟩ (fun _ q => (ct_Row_init2 (r := c + 1) (cap := 50) (by decide) q.sz q.top).mono (fun v g2 x => ⟨x.1, q.call (w2 := 2) rfl x.2.1 x.2.2.1 x.2.2.2 (fun _ _ s1 s2 q => q.gr ⟨s1, fun j h1 h2 => s2 j (by omega) (by omega)⟩)⟩)) ?_
  refine r_putF (pc := 14) (k := 1) (P' := Bd c 3 (.inr (.inr (7, [.int 0, .ref (c + 1), .null]))) (fun g => (fun _ => True) g ∧ RowAt (c + 1) 50 [] g) g) tyX8 dX8_init_14 hX8 tyX8_ok nmX8 eX8 (by decide) fX8_14 rfl rfl rfl rfl (fun _ _ => rfl) (fun _ _ => rfl) (Nat.le_of_ble_eq_true rfl) (fun _ q => q.ob) (fun _ q => q.put) ?_
  refine r_aload_n (pc := 17) dX8_init_17 rfl ?_
  refine r_new (pc := 18) (n := c + 3) (P' := BdN c 3 (.inr (.inr (7, [.int 0, .ref (c + 1), .null]))) (fun g => (fun _ => True) g ∧ RowAt (c + 1) 50 [] g) (.inr (.inr (4, [.null, .int 0]))) g) tyX5 dX8_init_18 hX5 tyX5_ok eX5 cX8_7 aX5 zX5 dfX5 (Nat.le_of_ble_eq_true rfl) (Nat.le_of_ble_eq_true rfl) (fun _ q => q.1) (fun _ q => q.new) ?_
  refine r_dup (pc := 21) dX8_init_21 rfl ?_
  refine r_bipush (pc := 22) (v := 50) dX8_init_22 (by decide) ?_
  rw [show Value.int 50 = .int (nI 50) from rfl]
  refine r_ini (pc := 24) (μ' := mX5_init) (P' := Bd c 5 (.inr (.inr (7, [.int 0, .ref (c + 1), .null]))) (fun g => (fun g => (fun _ => True) g ∧ RowAt (c + 1) 50 [] g) g ∧ RowAt (c + 3) 50 [] g) g) dX8_init_24 nX8_11 iX5_init rfl rfl kX5_init rfl rfl (rr (by decide) rfl) rfl ⟨(Nat.le_of_ble_eq_true rfl), (Nat.le_of_ble_eq_true rfl)⟩ (fun _ q => (ct_Row_init2 (r := c + 3) (cap := 50) (by decide) q.sz q.top).mono (fun v g2 x => ⟨x.1, q.call (w2 := 2) rfl x.2.1 x.2.2.1 x.2.2.2 (fun _ _ s1 s2 q => q.gr ⟨s1, fun j h1 h2 => s2 j (by omega) (by omega)⟩)⟩)) ?_
  refine r_putF (pc := 27) (k := 2) (P' := Bd c 5 (.inr (.inr (7, [.int 0, .ref (c + 1), .ref (c + 3)]))) (fun g => (fun g => (fun _ => True) g ∧ RowAt (c + 1) 50 [] g) g ∧ RowAt (c + 3) 50 [] g) g) tyX8 dX8_init_27 hX8 tyX8_ok nmX8 eX8 (by decide) fX8_18 rfl rfl rfl rfl (fun _ _ => rfl) (fun _ _ => rfl) (Nat.le_of_ble_eq_true rfl) (fun _ q => q.ob) (fun _ q => q.put) ?_
  refine r_aload_n (pc := 30) dX8_init_30 rfl ?_
  refine r_iload_n (pc := 31) dX8_init_31 rfl ?_
  refine r_putF (pc := 32) (k := 0) (P' := Bd c 5 (.inr (.inr (7, [.int use, .ref (c + 1), .ref (c + 3)]))) (fun g => (fun g => (fun _ => True) g ∧ RowAt (c + 1) 50 [] g) g ∧ RowAt (c + 3) 50 [] g) g) tyX8 dX8_init_32 hX8 tyX8_ok nmX8 eX8 (by decide) fX8_21 rfl rfl rfl rfl (fun _ _ => rfl) (fun _ _ => rfl) (Nat.le_of_ble_eq_true rfl) (fun _ q => q.ob) (fun _ q => q.put) ?_
  refine r_return (pc := 35) dX8_init_35 rfl ⟨(Nat.le_of_ble_eq_true rfl), (Nat.le_of_ble_eq_true rfl)⟩ (fun gE hg => ?_)
  exact ⟨rfl, ⟨hg.ob.1, hg.ob.2, hg.cc.1.2, [], hg.cc.2⟩, hg.1, hg.2.1⟩
set_option maxHeartbeats 8000000 in
theorem ct_Sheet_init {c : Nat}  {g : AH} (hr : c + 1 = g.1) (ho : g.2 c = .inr (.inr (5, [.null, .int 0]))) : CT 4 2 42 mX6_init [.ref c] g (fun v g' => v = none ∧ SheetAt c 0 [] g' ∧ g'.1 = c + 3 ∧ ∀ j, j < c → g'.2 j = g.2 j) := by
  refine ct_of (by decide) (fun _ _ => Nat.le_of_ble_eq_true rfl) ?_
  dsimp only [pad, ent]
  refine aw_P (P' := Bd c 1 (.inr (.inr (5, [.null, .int 0]))) (fun _ => True) g) (fun g' e => by subst e; exact ⟨hr.symm, fun _ _ => rfl, ho, trivial, fun _ _ _ _ _ => trivial⟩) ?_
  refine r_aload_n (pc := 0) dX6_init_0 rfl ?_
  refine r_objInit (pc := 1) dX6_init_1 nX6_1 oi_i oi_c ⟨(Nat.le_of_ble_eq_true rfl), (Nat.le_of_ble_eq_true rfl)⟩ (Nat.le_of_ble_eq_true rfl) ?_
  refine r_aload_n (pc := 4) dX6_init_4 rfl ?_
  refine r_new (pc := 5) (n := c + 1) (P' := BdN c 1 (.inr (.inr (5, [.null, .int 0]))) (fun _ => True) (.inr (.inr (4, [.null, .int 0]))) g) tyX5 dX6_init_5 hX5 tyX5_ok eX5 cX6_7 aX5 zX5 dfX5 (Nat.le_of_ble_eq_true rfl) (Nat.le_of_ble_eq_true rfl) (fun _ q => q.1) (fun _ q => q.new) ?_
  refine r_dup (pc := 8) dX6_init_8 rfl ?_
  refine r_bipush (pc := 9) (v := 40) dX6_init_9 (by decide) ?_
  rw [show Value.int 40 = .int (nI 40) from rfl]
  refine r_ini (pc := 11) (μ' := mX5_init) (P' := Bd c 3 (.inr (.inr (5, [.null, .int 0]))) (fun g => (fun _ => True) g ∧ RowAt (c + 1) 40 [] g) g) dX6_init_11 nX6_11 iX5_init rfl rfl kX5_init rfl rfl (rr (by decide) rfl) rfl ⟨(Nat.le_of_ble_eq_true rfl), (Nat.le_of_ble_eq_true rfl)⟩ (fun _ q => (ct_Row_init2 (r := c + 1) (cap := 40) (by decide) q.sz q.top).mono (fun v g2 x => ⟨x.1, q.call (w2 := 2) rfl x.2.1 x.2.2.1 x.2.2.2 (fun _ _ s1 s2 q => q.gr ⟨s1, fun j h1 h2 => s2 j (by omega) (by omega)⟩)⟩)) ?_
  refine r_putF (pc := 14) (k := 0) (P' := Bd c 3 (.inr (.inr (5, [.ref (c + 1), .int 0]))) (fun g => (fun _ => True) g ∧ RowAt (c + 1) 40 [] g) g) tyX6 dX6_init_14 hX6 tyX6_ok nmX6 eX6 (by decide) fX6_14 rfl rfl rfl rfl (fun _ _ => rfl) (fun _ _ => rfl) (Nat.le_of_ble_eq_true rfl) (fun _ q => q.ob) (fun _ q => q.put) ?_
  refine r_aload_n (pc := 17) dX6_init_17 rfl ?_
  refine r_iconst (pc := 18) (v := 0) dX6_init_18 (by decide) ?_
  refine r_putf (pc := 19) (k := 1) (P' := Bd c 3 (.inr (.inr (5, [.ref (c + 1), .int 0]))) (fun g => (fun _ => True) g ∧ RowAt (c + 1) 40 [] g) g) tyX6 dX6_init_19 hX6 tyX6_ok nmX6 eX6 (by decide) fX6_18 rfl rfl (fun _ _ => rfl) (fun _ _ => rfl) (Nat.le_of_ble_eq_true rfl) (fun _ q => q.ob) (fun _ q => q.put) ?_
  refine r_return (pc := 22) dX6_init_22 rfl ⟨(Nat.le_of_ble_eq_true rfl), (Nat.le_of_ble_eq_true rfl)⟩ (fun gE hg => ?_)
  exact ⟨rfl, ⟨hg.ob.1, hg.ob.2, hg.cc.2⟩, hg.1, hg.2.1⟩
set_option maxHeartbeats 8000000 in
theorem ct_Rd_init {c : Nat}  {g : AH} (hr : c + 1 = g.1) (ho : g.2 c = .inr (.inr (3, [.null, .null, .null, .int 0, .int 0]))) : CT 4 2 52 mX4_init [.ref c] g (fun v g' => v = none ∧ RdAny c g' ∧ g'.1 = c + 3 ∧ ∀ j, j < c → g'.2 j = g.2 j) := by
  refine ct_of (by decide) (fun _ _ => Nat.le_of_ble_eq_true rfl) ?_
  dsimp only [pad, ent]
  refine aw_P (P' := Bd c 1 (.inr (.inr (3, [.null, .null, .null, .int 0, .int 0]))) (fun _ => True) g) (fun g' e => by subst e; exact ⟨hr.symm, fun _ _ => rfl, ho, trivial, fun _ _ _ _ _ => trivial⟩) ?_
  refine r_aload_n (pc := 0) dX4_init_0 rfl ?_
  refine r_objInit (pc := 1) dX4_init_1 nX4_1 oi_i oi_c ⟨(Nat.le_of_ble_eq_true rfl), (Nat.le_of_ble_eq_true rfl)⟩ (Nat.le_of_ble_eq_true rfl) ?_
  refine r_aload_n (pc := 4) dX4_init_4 rfl ?_
  refine r_new (pc := 5) (n := c + 1) (P' := BdN c 1 (.inr (.inr (3, [.null, .null, .null, .int 0, .int 0]))) (fun _ => True) (.inr (.inr (4, [.null, .int 0]))) g) tyX5 dX4_init_5 hX5 tyX5_ok eX5 cX4_7 aX5 zX5 dfX5 (Nat.le_of_ble_eq_true rfl) (Nat.le_of_ble_eq_true rfl) (fun _ q => q.1) (fun _ q => q.new) ?_
  refine r_dup (pc := 8) dX4_init_8 rfl ?_
  refine r_bipush (pc := 9) (v := 50) dX4_init_9 (by decide) ?_
  rw [show Value.int 50 = .int (nI 50) from rfl]
  refine r_ini (pc := 11) (μ' := mX5_init) (P' := Bd c 3 (.inr (.inr (3, [.null, .null, .null, .int 0, .int 0]))) (fun g => (fun _ => True) g ∧ RowAt (c + 1) 50 [] g) g) dX4_init_11 nX4_11 iX5_init rfl rfl kX5_init rfl rfl (rr (by decide) rfl) rfl ⟨(Nat.le_of_ble_eq_true rfl), (Nat.le_of_ble_eq_true rfl)⟩ (fun _ q => (ct_Row_init2 (r := c + 1) (cap := 50) (by decide) q.sz q.top).mono (fun v g2 x => ⟨x.1, q.call (w2 := 2) rfl x.2.1 x.2.2.1 x.2.2.2 (fun _ _ s1 s2 q => q.gr ⟨s1, fun j h1 h2 => s2 j (by omega) (by omega)⟩)⟩)) ?_
  refine r_putF (pc := 14) (k := 0) (P' := Bd c 3 (.inr (.inr (3, [.ref (c + 1), .null, .null, .int 0, .int 0]))) (fun g => (fun _ => True) g ∧ RowAt (c + 1) 50 [] g) g) tyX4 dX4_init_14 hX4 tyX4_ok nmX4 eX4 (by decide) fX4_14 rfl rfl rfl rfl (fun _ _ => rfl) (fun _ _ => rfl) (Nat.le_of_ble_eq_true rfl) (fun _ q => q.ob) (fun _ q => q.put) ?_
  refine r_aload_n (pc := 17) dX4_init_17 rfl ?_
  refine r_aload_n (pc := 18) dX4_init_18 rfl ?_
  refine r_getf (pc := 19) (k := 0) dX4_init_19 hX4 eX4 (by decide) fX4_14 (fun _ q => q.ob) rfl ?_
  refine r_putf (pc := 22) (k := 1) (P' := Bd c 3 (.inr (.inr (3, [.ref (c + 1), .ref (c + 1), .null, .int 0, .int 0]))) (fun g => (fun _ => True) g ∧ RowAt (c + 1) 50 [] g) g) tyX4 dX4_init_22 hX4 tyX4_ok nmX4 eX4 (by decide) fX4_20 rfl rfl (fun _ _ => rfl) (fun _ _ => rfl) (Nat.le_of_ble_eq_true rfl) (fun _ q => q.ob) (fun _ q => q.put) ?_
  refine r_aload_n (pc := 25) dX4_init_25 rfl ?_
  refine r_null (pc := 26) dX4_init_26 ?_
  refine r_putf (pc := 27) (k := 2) (P' := Bd c 3 (.inr (.inr (3, [.ref (c + 1), .ref (c + 1), .null, .int 0, .int 0]))) (fun g => (fun _ => True) g ∧ RowAt (c + 1) 50 [] g) g) tyX4 dX4_init_27 hX4 tyX4_ok nmX4 eX4 (by decide) fX4_23 rfl rfl (fun _ _ => rfl) (fun _ _ => rfl) (Nat.le_of_ble_eq_true rfl) (fun _ q => q.ob) (fun _ q => q.put) ?_
  refine r_aload_n (pc := 30) dX4_init_30 rfl ?_
  refine r_iconst (pc := 31) (v := 0) dX4_init_31 (by decide) ?_
  refine r_putf (pc := 32) (k := 3) (P' := Bd c 3 (.inr (.inr (3, [.ref (c + 1), .ref (c + 1), .null, .int 0, .int 0]))) (fun g => (fun _ => True) g ∧ RowAt (c + 1) 50 [] g) g) tyX4 dX4_init_32 hX4 tyX4_ok nmX4 eX4 (by decide) fX4_27 rfl rfl (fun _ _ => rfl) (fun _ _ => rfl) (Nat.le_of_ble_eq_true rfl) (fun _ q => q.ob) (fun _ q => q.put) ?_
  refine r_aload_n (pc := 35) dX4_init_35 rfl ?_
  refine r_iconst (pc := 36) (v := 1) dX4_init_36 (by decide) ?_
  refine r_putf (pc := 37) (k := 4) (P' := Bd c 3 (.inr (.inr (3, [.ref (c + 1), .ref (c + 1), .null, .int 0, .int 1]))) (fun g => (fun _ => True) g ∧ RowAt (c + 1) 50 [] g) g) tyX4 dX4_init_37 hX4 tyX4_ok nmX4 eX4 (by decide) fX4_31 rfl rfl (fun _ _ => rfl) (fun _ _ => rfl) (Nat.le_of_ble_eq_true rfl) (fun _ q => q.ob) (fun _ q => q.put) ?_
  refine r_return (pc := 40) dX4_init_40 rfl ⟨(Nat.le_of_ble_eq_true rfl), (Nat.le_of_ble_eq_true rfl)⟩ (fun gE hg => ?_)
  exact ⟨rfl, ⟨hg.ob.1, _, _, _, _, _, hg.ob.2, hg.cc.2⟩, hg.1, hg.2.1⟩
set_option maxHeartbeats 8000000 in
theorem ct_Vo_init {c : Nat}  {g : AH} (hr : c + 1 = g.1) (ho : g.2 c = .inr (.inr (9, [.null, .int 0, .int 0, .int 0]))) : CT 4 2 42 mX10_init [.ref c] g (fun v g' => v = none ∧ VoX c [] g' ∧ g'.1 = c + 3 ∧ ∀ j, j < c → g'.2 j = g.2 j) := by
  refine ct_of (by decide) (fun _ _ => Nat.le_of_ble_eq_true rfl) ?_
  dsimp only [pad, ent]
  refine aw_P (P' := Bd c 1 (.inr (.inr (9, [.null, .int 0, .int 0, .int 0]))) (fun _ => True) g) (fun g' e => by subst e; exact ⟨hr.symm, fun _ _ => rfl, ho, trivial, fun _ _ _ _ _ => trivial⟩) ?_
  refine r_aload_n (pc := 0) dX10_init_0 rfl ?_
  refine r_objInit (pc := 1) dX10_init_1 nX10_1 oi_i oi_c ⟨(Nat.le_of_ble_eq_true rfl), (Nat.le_of_ble_eq_true rfl)⟩ (Nat.le_of_ble_eq_true rfl) ?_
  refine r_aload_n (pc := 4) dX10_init_4 rfl ?_
  refine r_new (pc := 5) (n := c + 1) (P' := BdN c 1 (.inr (.inr (9, [.null, .int 0, .int 0, .int 0]))) (fun _ => True) (.inr (.inr (4, [.null, .int 0]))) g) tyX5 dX10_init_5 hX5 tyX5_ok eX5 cX10_7 aX5 zX5 dfX5 (Nat.le_of_ble_eq_true rfl) (Nat.le_of_ble_eq_true rfl) (fun _ q => q.1) (fun _ q => q.new) ?_
  refine r_dup (pc := 8) dX10_init_8 rfl ?_
  refine r_bipush (pc := 9) (v := 40) dX10_init_9 (by decide) ?_
  rw [show Value.int 40 = .int (nI 40) from rfl]
  refine r_ini (pc := 11) (μ' := mX5_init) (P' := Bd c 3 (.inr (.inr (9, [.null, .int 0, .int 0, .int 0]))) (fun g => (fun _ => True) g ∧ RowAt (c + 1) 40 [] g) g) dX10_init_11 nX10_11 iX5_init rfl rfl kX5_init rfl rfl (rr (by decide) rfl) rfl ⟨(Nat.le_of_ble_eq_true rfl), (Nat.le_of_ble_eq_true rfl)⟩ (fun _ q => (ct_Row_init2 (r := c + 1) (cap := 40) (by decide) q.sz q.top).mono (fun v g2 x => ⟨x.1, q.call (w2 := 2) rfl x.2.1 x.2.2.1 x.2.2.2 (fun _ _ s1 s2 q => q.gr ⟨s1, fun j h1 h2 => s2 j (by omega) (by omega)⟩)⟩)) ?_
  refine r_putF (pc := 14) (k := 0) (P' := Bd c 3 (.inr (.inr (9, [.ref (c + 1), .int 0, .int 0, .int 0]))) (fun g => (fun _ => True) g ∧ RowAt (c + 1) 40 [] g) g) tyX10 dX10_init_14 hX10 tyX10_ok nmX10 eX10 (by decide) fX10_14 rfl rfl rfl rfl (fun _ _ => rfl) (fun _ _ => rfl) (Nat.le_of_ble_eq_true rfl) (fun _ q => q.ob) (fun _ q => q.put) ?_
  refine r_aload_n (pc := 17) dX10_init_17 rfl ?_
  refine r_iconst (pc := 18) (v := 0) dX10_init_18 (by decide) ?_
  refine r_putf (pc := 19) (k := 1) (P' := Bd c 3 (.inr (.inr (9, [.ref (c + 1), .int 0, .int 0, .int 0]))) (fun g => (fun _ => True) g ∧ RowAt (c + 1) 40 [] g) g) tyX10 dX10_init_19 hX10 tyX10_ok nmX10 eX10 (by decide) fX10_18 rfl rfl (fun _ _ => rfl) (fun _ _ => rfl) (Nat.le_of_ble_eq_true rfl) (fun _ q => q.ob) (fun _ q => q.put) ?_
  refine r_aload_n (pc := 22) dX10_init_22 rfl ?_
  refine r_iconst (pc := 23) (v := 0) dX10_init_23 (by decide) ?_
  refine r_putf (pc := 24) (k := 2) (P' := Bd c 3 (.inr (.inr (9, [.ref (c + 1), .int 0, .int 0, .int 0]))) (fun g => (fun _ => True) g ∧ RowAt (c + 1) 40 [] g) g) tyX10 dX10_init_24 hX10 tyX10_ok nmX10 eX10 (by decide) fX10_22 rfl rfl (fun _ _ => rfl) (fun _ _ => rfl) (Nat.le_of_ble_eq_true rfl) (fun _ q => q.ob) (fun _ q => q.put) ?_
  refine r_aload_n (pc := 27) dX10_init_27 rfl ?_
  refine r_iconst (pc := 28) (v := 0) dX10_init_28 (by decide) ?_
  refine r_putf (pc := 29) (k := 3) (P' := Bd c 3 (.inr (.inr (9, [.ref (c + 1), .int 0, .int 0, .int 0]))) (fun g => (fun _ => True) g ∧ RowAt (c + 1) 40 [] g) g) tyX10 dX10_init_29 hX10 tyX10_ok nmX10 eX10 (by decide) fX10_25 rfl rfl (fun _ _ => rfl) (fun _ _ => rfl) (Nat.le_of_ble_eq_true rfl) (fun _ q => q.ob) (fun _ q => q.put) ?_
  refine r_return (pc := 32) dX10_init_32 rfl ⟨(Nat.le_of_ble_eq_true rfl), (Nat.le_of_ble_eq_true rfl)⟩ (fun gE hg => ?_)
  exact ⟨rfl, ⟨_, _, _, hg.ob.1, hg.ob.2, hg.cc.2⟩, hg.1, hg.2.1⟩
set_option maxHeartbeats 8000000 in
theorem ct_State_init {c : Nat}  {g : AH} (hr : c + 1 = g.1) (ho : g.2 c = .inr (.inr (6, [.null, .null, .null, .null, .null, .null, .int 0]))) : CT 6 24 392 mX7_init [.ref c] g (fun v g' => v = none ∧ StK c K0 [] [] [] [] [] 1 g' ∧ g'.1 = c + 25 ∧ ∀ j, j < c → g'.2 j = g.2 j) := by
  refine ct_of (by decide) (fun _ _ => Nat.le_of_ble_eq_true rfl) ?_
  dsimp only [pad, ent]
  refine aw_P (P' := Bd c 1 (.inr (.inr (6, [.null, .null, .null, .null, .null, .null, .int 0]))) (fun _ => True) g) (fun g' e => by subst e; exact ⟨hr.symm, fun _ _ => rfl, ho, trivial, fun _ _ _ _ _ => trivial⟩) ?_
  refine r_aload_n (pc := 0) dX7_init_0 rfl ?_
  refine r_objInit (pc := 1) dX7_init_1 nX7_1 oi_i oi_c ⟨(Nat.le_of_ble_eq_true rfl), (Nat.le_of_ble_eq_true rfl)⟩ (Nat.le_of_ble_eq_true rfl) ?_
  refine r_aload_n (pc := 4) dX7_init_4 rfl ?_
  refine r_new (pc := 5) (n := c + 1) (P' := BdN c 1 (.inr (.inr (6, [.null, .null, .null, .null, .null, .null, .int 0]))) (fun _ => True) (.inr (.inr (0, [.null, .null, .int 0, .int 0, .int 0, .int 0, .int 0, .int 0, .int 0, .int 0]))) g) tyX0 dX7_init_5 hX0 tyX0_ok eX0 cX7_7 aX0 zX0 dfX0 (Nat.le_of_ble_eq_true rfl) (Nat.le_of_ble_eq_true rfl) (fun _ q => q.1) (fun _ q => q.new) ?_
  refine r_dup (pc := 8) dX7_init_8 rfl ?_
  refine r_ini (pc := 9) (μ' := mX0_init) (P' := Bd c 6 (.inr (.inr (6, [.null, .null, .null, .null, .null, .null, .int 0]))) (fun g => (fun _ => True) g ∧ CeilK (c + 1) K0 g) g) dX7_init_9 nX7_9 iX0_init rfl rfl kX0_init rfl rfl (rr (by decide) rfl) rfl ⟨(Nat.le_of_ble_eq_true rfl), (Nat.le_of_ble_eq_true rfl)⟩ (fun _ q => (ct_Ceil_init (c := c + 1) q.sz q.top).mono (fun v g2 x => ⟨x.1, q.call (w2 := 5) rfl x.2.1 x.2.2.1 x.2.2.2 (fun _ _ s1 s2 q => q.gr ⟨s1, fun j h1 h2 => s2 j (by omega) (by omega)⟩)⟩)) ?_
  refine r_putF (pc := 12) (k := 0) (P' := Bd c 6 (.inr (.inr (6, [.ref (c + 1), .null, .null, .null, .null, .null, .int 0]))) (fun g => (fun _ => True) g ∧ CeilK (c + 1) K0 g) g) tyX7 dX7_init_12 hX7 tyX7_ok nmX7 eX7 (by decide) fX7_10 rfl rfl rfl rfl (fun _ _ => rfl) (fun _ _ => rfl) (Nat.le_of_ble_eq_true rfl) (fun _ q => q.ob) (fun _ q => q.put) ?_
  refine r_aload_n (pc := 15) dX7_init_15 rfl ?_
  refine r_new (pc := 16) (n := c + 6) (P' := BdN c 6 (.inr (.inr (6, [.ref (c + 1), .null, .null, .null, .null, .null, .int 0]))) (fun g => (fun _ => True) g ∧ CeilK (c + 1) K0 g) (.inr (.inr (1, [.null, .null]))) g) tyX1 dX7_init_16 hX1 tyX1_ok eX1 cX7_16 aX1 zX1 dfX1 (Nat.le_of_ble_eq_true rfl) (Nat.le_of_ble_eq_true rfl) (fun _ q => q.1) (fun _ q => q.new) ?_
  refine r_dup (pc := 19) dX7_init_19 rfl ?_
  refine r_ini (pc := 20) (μ' := mX1_init) (P' := Bd c 11 (.inr (.inr (6, [.ref (c + 1), .null, .null, .null, .null, .null, .int 0]))) (fun g => (fun g => (fun _ => True) g ∧ CeilK (c + 1) K0 g) g ∧ CrewAt (c + 6) [] [] g) g) dX7_init_20 nX7_18 iX1_init rfl rfl kX1_init rfl rfl (rr (by decide) rfl) rfl ⟨(Nat.le_of_ble_eq_true rfl), (Nat.le_of_ble_eq_true rfl)⟩ (fun _ q => (ct_Crew_init (c := c + 6) q.sz q.top).mono (fun v g2 x => ⟨x.1, q.call (w2 := 5) rfl x.2.1 x.2.2.1 x.2.2.2 (fun _ _ s1 s2 q => q.gr ⟨s1, fun j h1 h2 => s2 j (by omega) (by omega)⟩)⟩)) ?_
  refine r_putF (pc := 23) (k := 1) (P' := Bd c 11 (.inr (.inr (6, [.ref (c + 1), .ref (c + 6), .null, .null, .null, .null, .int 0]))) (fun g => (fun g => (fun _ => True) g ∧ CeilK (c + 1) K0 g) g ∧ CrewAt (c + 6) [] [] g) g) tyX7 dX7_init_23 hX7 tyX7_ok nmX7 eX7 (by decide) fX7_19 rfl rfl rfl rfl (fun _ _ => rfl) (fun _ _ => rfl) (Nat.le_of_ble_eq_true rfl) (fun _ q => q.ob) (fun _ q => q.put) ?_
  refine r_aload_n (pc := 26) dX7_init_26 rfl ?_
  refine r_new (pc := 27) (n := c + 11) (P' := BdN c 11 (.inr (.inr (6, [.ref (c + 1), .ref (c + 6), .null, .null, .null, .null, .int 0]))) (fun g => (fun g => (fun _ => True) g ∧ CeilK (c + 1) K0 g) g ∧ CrewAt (c + 6) [] [] g) (.inr (.inr (7, [.int 0, .null, .null]))) g) tyX8 dX7_init_27 hX8 tyX8_ok eX8 cX7_23 aX8 zX8 dfX8 (Nat.le_of_ble_eq_true rfl) (Nat.le_of_ble_eq_true rfl) (fun _ q => q.1) (fun _ q => q.new) ?_
  refine r_dup (pc := 30) dX7_init_30 rfl ?_
  refine r_iconst (pc := 31) (v := 0) dX7_init_31 (by decide) ?_
  refine r_ini (pc := 32) (μ' := mX8_init) (P' := Bd c 16 (.inr (.inr (6, [.ref (c + 1), .ref (c + 6), .null, .null, .null, .null, .int 0]))) (fun g => (fun g => (fun g => (fun _ => True) g ∧ CeilK (c + 1) K0 g) g ∧ CrewAt (c + 6) [] [] g) g ∧ TextAt (c + 11) 0 [] g) g) dX7_init_32 nX7_25 iX8_init rfl rfl kX8_init rfl rfl (rr (by decide) rfl) rfl ⟨(Nat.le_of_ble_eq_true rfl), (Nat.le_of_ble_eq_true rfl)⟩ (fun _ q => (ct_Text_init (c := c + 11) (use := 0) q.sz q.top).mono (fun v g2 x => ⟨x.1, q.call (w2 := 5) rfl x.2.1 x.2.2.1 x.2.2.2 (fun _ _ s1 s2 q => q.gr ⟨s1, fun j h1 h2 => s2 j (by omega) (by omega)⟩)⟩)) ?_
  refine r_putF (pc := 35) (k := 2) (P' := Bd c 16 (.inr (.inr (6, [.ref (c + 1), .ref (c + 6), .ref (c + 11), .null, .null, .null, .int 0]))) (fun g => (fun g => (fun g => (fun _ => True) g ∧ CeilK (c + 1) K0 g) g ∧ CrewAt (c + 6) [] [] g) g ∧ TextAt (c + 11) 0 [] g) g) tyX7 dX7_init_35 hX7 tyX7_ok nmX7 eX7 (by decide) fX7_28 rfl rfl rfl rfl (fun _ _ => rfl) (fun _ _ => rfl) (Nat.le_of_ble_eq_true rfl) (fun _ q => q.ob) (fun _ q => q.put) ?_
  refine r_aload_n (pc := 38) dX7_init_38 rfl ?_
  refine r_new (pc := 39) (n := c + 16) (P' := BdN c 16 (.inr (.inr (6, [.ref (c + 1), .ref (c + 6), .ref (c + 11), .null, .null, .null, .int 0]))) (fun g => (fun g => (fun g => (fun _ => True) g ∧ CeilK (c + 1) K0 g) g ∧ CrewAt (c + 6) [] [] g) g ∧ TextAt (c + 11) 0 [] g) (.inr (.inr (7, [.int 0, .null, .null]))) g) tyX8 dX7_init_39 hX8 tyX8_ok eX8 cX7_23 aX8 zX8 dfX8 (Nat.le_of_ble_eq_true rfl) (Nat.le_of_ble_eq_true rfl) (fun _ q => q.1) (fun _ q => q.new) ?_
  refine r_dup (pc := 42) dX7_init_42 rfl ?_
  refine r_iconst (pc := 43) (v := 1) dX7_init_43 (by decide) ?_
  refine r_ini (pc := 44) (μ' := mX8_init) (P' := Bd c 21 (.inr (.inr (6, [.ref (c + 1), .ref (c + 6), .ref (c + 11), .null, .null, .null, .int 0]))) (fun g => (fun g => (fun g => (fun g => (fun _ => True) g ∧ CeilK (c + 1) K0 g) g ∧ CrewAt (c + 6) [] [] g) g ∧ TextAt (c + 11) 0 [] g) g ∧ TextAt (c + 16) 1 [] g) g) dX7_init_44 nX7_25 iX8_init rfl rfl kX8_init rfl rfl (rr (by decide) rfl) rfl ⟨(Nat.le_of_ble_eq_true rfl), (Nat.le_of_ble_eq_true rfl)⟩ (fun _ q => (ct_Text_init (c := c + 16) (use := 1) q.sz q.top).mono (fun v g2 x => ⟨x.1, q.call (w2 := 5) rfl x.2.1 x.2.2.1 x.2.2.2 (fun _ _ s1 s2 q => q.gr ⟨s1, fun j h1 h2 => s2 j (by omega) (by omega)⟩)⟩)) ?_
  refine r_putF (pc := 47) (k := 3) (P' := Bd c 21 (.inr (.inr (6, [.ref (c + 1), .ref (c + 6), .ref (c + 11), .ref (c + 16), .null, .null, .int 0]))) (fun g => (fun g => (fun g => (fun g => (fun _ => True) g ∧ CeilK (c + 1) K0 g) g ∧ CrewAt (c + 6) [] [] g) g ∧ TextAt (c + 11) 0 [] g) g ∧ TextAt (c + 16) 1 [] g) g) tyX7 dX7_init_47 hX7 tyX7_ok nmX7 eX7 (by decide) fX7_32 rfl rfl rfl rfl (fun _ _ => rfl) (fun _ _ => rfl) (Nat.le_of_ble_eq_true rfl) (fun _ q => q.ob) (fun _ q => q.put) ?_
  refine r_aload_n (pc := 50) dX7_init_50 rfl ?_
  refine r_new (pc := 51) (n := c + 21) (P' := BdN c 21 (.inr (.inr (6, [.ref (c + 1), .ref (c + 6), .ref (c + 11), .ref (c + 16), .null, .null, .int 0]))) (fun g => (fun g => (fun g => (fun g => (fun _ => True) g ∧ CeilK (c + 1) K0 g) g ∧ CrewAt (c + 6) [] [] g) g ∧ TextAt (c + 11) 0 [] g) g ∧ TextAt (c + 16) 1 [] g) (.inr (.inr (4, [.null, .int 0]))) g) tyX5 dX7_init_51 hX5 tyX5_ok eX5 cX7_35 aX5 zX5 dfX5 (Nat.le_of_ble_eq_true rfl) (Nat.le_of_ble_eq_true rfl) (fun _ q => q.1) (fun _ q => q.new) ?_
  refine r_dup (pc := 54) dX7_init_54 rfl ?_
  refine r_bipush (pc := 55) (v := 50) dX7_init_55 (by decide) ?_
  rw [show Value.int 50 = .int (nI 50) from rfl]
  refine r_ini (pc := 57) (μ' := mX5_init) (P' := Bd c 23 (.inr (.inr (6, [.ref (c + 1), .ref (c + 6), .ref (c + 11), .ref (c + 16), .null, .null, .int 0]))) (fun g => (fun g => (fun g => (fun g => (fun g => (fun _ => True) g ∧ CeilK (c + 1) K0 g) g ∧ CrewAt (c + 6) [] [] g) g ∧ TextAt (c + 11) 0 [] g) g ∧ TextAt (c + 16) 1 [] g) g ∧ RowAt (c + 21) 50 [] g) g) dX7_init_57 nX7_37 iX5_init rfl rfl kX5_init rfl rfl (rr (by decide) rfl) rfl ⟨(Nat.le_of_ble_eq_true rfl), (Nat.le_of_ble_eq_true rfl)⟩ (fun _ q => (ct_Row_init2 (r := c + 21) (cap := 50) (by decide) q.sz q.top).mono (fun v g2 x => ⟨x.1, q.call (w2 := 2) rfl x.2.1 x.2.2.1 x.2.2.2 (fun _ _ s1 s2 q => q.gr ⟨s1, fun j h1 h2 => s2 j (by omega) (by omega)⟩)⟩)) ?_
  refine r_putF (pc := 60) (k := 4) (P' := Bd c 23 (.inr (.inr (6, [.ref (c + 1), .ref (c + 6), .ref (c + 11), .ref (c + 16), .ref (c + 21), .null, .int 0]))) (fun g => (fun g => (fun g => (fun g => (fun g => (fun _ => True) g ∧ CeilK (c + 1) K0 g) g ∧ CrewAt (c + 6) [] [] g) g ∧ TextAt (c + 11) 0 [] g) g ∧ TextAt (c + 16) 1 [] g) g ∧ RowAt (c + 21) 50 [] g) g) tyX7 dX7_init_60 hX7 tyX7_ok nmX7 eX7 (by decide) fX7_38 rfl rfl rfl rfl (fun _ _ => rfl) (fun _ _ => rfl) (Nat.le_of_ble_eq_true rfl) (fun _ q => q.ob) (fun _ q => q.put) ?_
  refine r_aload_n (pc := 63) dX7_init_63 rfl ?_
  refine r_new (pc := 64) (n := c + 23) (P' := BdN c 23 (.inr (.inr (6, [.ref (c + 1), .ref (c + 6), .ref (c + 11), .ref (c + 16), .ref (c + 21), .null, .int 0]))) (fun g => (fun g => (fun g => (fun g => (fun g => (fun _ => True) g ∧ CeilK (c + 1) K0 g) g ∧ CrewAt (c + 6) [] [] g) g ∧ TextAt (c + 11) 0 [] g) g ∧ TextAt (c + 16) 1 [] g) g ∧ RowAt (c + 21) 50 [] g) (.inr (.inr (4, [.null, .int 0]))) g) tyX5 dX7_init_64 hX5 tyX5_ok eX5 cX7_35 aX5 zX5 dfX5 (Nat.le_of_ble_eq_true rfl) (Nat.le_of_ble_eq_true rfl) (fun _ q => q.1) (fun _ q => q.new) ?_
  refine r_dup (pc := 67) dX7_init_67 rfl ?_
  refine r_bipush (pc := 68) (v := 20) dX7_init_68 (by decide) ?_
  rw [show Value.int 20 = .int (nI 20) from rfl]
  refine r_ini (pc := 70) (μ' := mX5_init) (P' := Bd c 25 (.inr (.inr (6, [.ref (c + 1), .ref (c + 6), .ref (c + 11), .ref (c + 16), .ref (c + 21), .null, .int 0]))) (fun g => (fun g => (fun g => (fun g => (fun g => (fun g => (fun _ => True) g ∧ CeilK (c + 1) K0 g) g ∧ CrewAt (c + 6) [] [] g) g ∧ TextAt (c + 11) 0 [] g) g ∧ TextAt (c + 16) 1 [] g) g ∧ RowAt (c + 21) 50 [] g) g ∧ RowAt (c + 23) 20 [] g) g) dX7_init_70 nX7_37 iX5_init rfl rfl kX5_init rfl rfl (rr (by decide) rfl) rfl ⟨(Nat.le_of_ble_eq_true rfl), (Nat.le_of_ble_eq_true rfl)⟩ (fun _ q => (ct_Row_init2 (r := c + 23) (cap := 20) (by decide) q.sz q.top).mono (fun v g2 x => ⟨x.1, q.call (w2 := 2) rfl x.2.1 x.2.2.1 x.2.2.2 (fun _ _ s1 s2 q => q.gr ⟨s1, fun j h1 h2 => s2 j (by omega) (by omega)⟩)⟩)) ?_
  refine r_putF (pc := 73) (k := 5) (P' := Bd c 25 (.inr (.inr (6, [.ref (c + 1), .ref (c + 6), .ref (c + 11), .ref (c + 16), .ref (c + 21), .ref (c + 23), .int 0]))) (fun g => (fun g => (fun g => (fun g => (fun g => (fun g => (fun _ => True) g ∧ CeilK (c + 1) K0 g) g ∧ CrewAt (c + 6) [] [] g) g ∧ TextAt (c + 11) 0 [] g) g ∧ TextAt (c + 16) 1 [] g) g ∧ RowAt (c + 21) 50 [] g) g ∧ RowAt (c + 23) 20 [] g) g) tyX7 dX7_init_73 hX7 tyX7_ok nmX7 eX7 (by decide) fX7_42 rfl rfl rfl rfl (fun _ _ => rfl) (fun _ _ => rfl) (Nat.le_of_ble_eq_true rfl) (fun _ q => q.ob) (fun _ q => q.put) ?_
  refine r_aload_n (pc := 76) dX7_init_76 rfl ?_
  refine r_iconst (pc := 77) (v := 1) dX7_init_77 (by decide) ?_
  refine r_putf (pc := 78) (k := 6) (P' := Bd c 25 (.inr (.inr (6, [.ref (c + 1), .ref (c + 6), .ref (c + 11), .ref (c + 16), .ref (c + 21), .ref (c + 23), .int 1]))) (fun g => (fun g => (fun g => (fun g => (fun g => (fun g => (fun _ => True) g ∧ CeilK (c + 1) K0 g) g ∧ CrewAt (c + 6) [] [] g) g ∧ TextAt (c + 11) 0 [] g) g ∧ TextAt (c + 16) 1 [] g) g ∧ RowAt (c + 21) 50 [] g) g ∧ RowAt (c + 23) 20 [] g) g) tyX7 dX7_init_78 hX7 tyX7_ok nmX7 eX7 (by decide) fX7_45 rfl rfl (fun _ _ => rfl) (fun _ _ => rfl) (Nat.le_of_ble_eq_true rfl) (fun _ q => q.ob) (fun _ q => q.put) ?_
  refine r_return (pc := 81) dX7_init_81 rfl ⟨(Nat.le_of_ble_eq_true rfl), (Nat.le_of_ble_eq_true rfl)⟩ (fun gE hg => ?_)
  exact ⟨rfl, ⟨⟨hg.ob.1, hg.ob.2⟩, hg.cc.1.1.1.1.1.2, hg.cc.1.1.1.1.2, hg.cc.1.1.1.2, hg.cc.1.1.2, hg.cc.1.2, hg.cc.2⟩, hg.1, hg.2.1⟩
set_option maxHeartbeats 8000000 in
theorem ct_Th_init {c : Nat} {ε : Nat} {g : AH} (hr : c + 1 = g.1) (ho : g.2 c = .inr (.inr (8, [.null, .null, .null, .null, .null, .null, .null, .null, .int 0]))) : CT 6 17 344 mX9_init [.ref c, .ref ε] g (fun v g' => v = none ∧ ThAny c ε g' ∧ g'.1 = c + 18 ∧ ∀ j, j < c → g'.2 j = g.2 j) := by
  refine ct_of (by decide) (fun _ _ => Nat.le_of_ble_eq_true rfl) ?_
  dsimp only [pad, ent]
  refine aw_P (P' := Bd c 1 (.inr (.inr (8, [.null, .null, .null, .null, .null, .null, .null, .null, .int 0]))) (fun _ => True) g) (fun g' e => by subst e; exact ⟨hr.symm, fun _ _ => rfl, ho, trivial, fun _ _ _ _ _ => trivial⟩) ?_
  refine r_aload_n (pc := 0) dX9_init_0 rfl ?_
  refine r_objInit (pc := 1) dX9_init_1 nX9_1 oi_i oi_c ⟨(Nat.le_of_ble_eq_true rfl), (Nat.le_of_ble_eq_true rfl)⟩ (Nat.le_of_ble_eq_true rfl) ?_
  refine r_aload_n (pc := 4) dX9_init_4 rfl ?_
  refine r_new (pc := 5) (n := c + 1) (P' := BdN c 1 (.inr (.inr (8, [.null, .null, .null, .null, .null, .null, .null, .null, .int 0]))) (fun _ => True) (.inr (.inr (0, [.null, .null, .int 0, .int 0, .int 0, .int 0, .int 0, .int 0, .int 0, .int 0]))) g) tyX0 dX9_init_5 hX0 tyX0_ok eX0 cX9_7 aX0 zX0 dfX0 (Nat.le_of_ble_eq_true rfl) (Nat.le_of_ble_eq_true rfl) (fun _ q => q.1) (fun _ q => q.new) ?_
  refine r_dup (pc := 8) dX9_init_8 rfl ?_
  refine r_ini (pc := 9) (μ' := mX0_init) (P' := Bd c 6 (.inr (.inr (8, [.null, .null, .null, .null, .null, .null, .null, .null, .int 0]))) (fun g => (fun _ => True) g ∧ CeilK (c + 1) K0 g) g) dX9_init_9 nX9_9 iX0_init rfl rfl kX0_init rfl rfl (rr (by decide) rfl) rfl ⟨(Nat.le_of_ble_eq_true rfl), (Nat.le_of_ble_eq_true rfl)⟩ (fun _ q => (ct_Ceil_init (c := c + 1) q.sz q.top).mono (fun v g2 x => ⟨x.1, q.call (w2 := 5) rfl x.2.1 x.2.2.1 x.2.2.2 (fun _ _ s1 s2 q => q.gr ⟨s1, fun j h1 h2 => s2 j (by omega) (by omega)⟩)⟩)) ?_
  refine r_putF (pc := 12) (k := 1) (P' := Bd c 6 (.inr (.inr (8, [.null, .ref (c + 1), .null, .null, .null, .null, .null, .null, .int 0]))) (fun g => (fun _ => True) g ∧ CeilK (c + 1) K0 g) g) tyX9 dX9_init_12 hX9 tyX9_ok nmX9 eX9 (by decide) fX9_10 rfl rfl rfl rfl (fun _ _ => rfl) (fun _ _ => rfl) (Nat.le_of_ble_eq_true rfl) (fun _ q => q.ob) (fun _ q => q.put) ?_
  refine r_aload_n (pc := 15) dX9_init_15 rfl ?_
  refine r_new (pc := 16) (n := c + 6) (P' := BdN c 6 (.inr (.inr (8, [.null, .ref (c + 1), .null, .null, .null, .null, .null, .null, .int 0]))) (fun g => (fun _ => True) g ∧ CeilK (c + 1) K0 g) (.inr (.inr (4, [.null, .int 0]))) g) tyX5 dX9_init_16 hX5 tyX5_ok eX5 cX9_16 aX5 zX5 dfX5 (Nat.le_of_ble_eq_true rfl) (Nat.le_of_ble_eq_true rfl) (fun _ q => q.1) (fun _ q => q.new) ?_
  refine r_dup (pc := 19) dX9_init_19 rfl ?_
  refine r_bipush (pc := 20) (v := 6) dX9_init_20 (by decide) ?_
  rw [show Value.int 6 = .int (nI 6) from rfl]
  refine r_ini (pc := 22) (μ' := mX5_init) (P' := Bd c 8 (.inr (.inr (8, [.null, .ref (c + 1), .null, .null, .null, .null, .null, .null, .int 0]))) (fun g => (fun g => (fun _ => True) g ∧ CeilK (c + 1) K0 g) g ∧ RowAt (c + 6) 6 [] g) g) dX9_init_22 nX9_18 iX5_init rfl rfl kX5_init rfl rfl (rr (by decide) rfl) rfl ⟨(Nat.le_of_ble_eq_true rfl), (Nat.le_of_ble_eq_true rfl)⟩ (fun _ q => (ct_Row_init2 (r := c + 6) (cap := 6) (by decide) q.sz q.top).mono (fun v g2 x => ⟨x.1, q.call (w2 := 2) rfl x.2.1 x.2.2.1 x.2.2.2 (fun _ _ s1 s2 q => q.gr ⟨s1, fun j h1 h2 => s2 j (by omega) (by omega)⟩)⟩)) ?_
  refine r_putF (pc := 25) (k := 2) (P' := Bd c 8 (.inr (.inr (8, [.null, .ref (c + 1), .ref (c + 6), .null, .null, .null, .null, .null, .int 0]))) (fun g => (fun g => (fun _ => True) g ∧ CeilK (c + 1) K0 g) g ∧ RowAt (c + 6) 6 [] g) g) tyX9 dX9_init_25 hX9 tyX9_ok nmX9 eX9 (by decide) fX9_21 rfl rfl rfl rfl (fun _ _ => rfl) (fun _ _ => rfl) (Nat.le_of_ble_eq_true rfl) (fun _ q => q.ob) (fun _ q => q.put) ?_
  refine r_aload_n (pc := 28) dX9_init_28 rfl ?_
  refine r_new (pc := 29) (n := c + 8) (P' := BdN c 8 (.inr (.inr (8, [.null, .ref (c + 1), .ref (c + 6), .null, .null, .null, .null, .null, .int 0]))) (fun g => (fun g => (fun _ => True) g ∧ CeilK (c + 1) K0 g) g ∧ RowAt (c + 6) 6 [] g) (.inr (.inr (4, [.null, .int 0]))) g) tyX5 dX9_init_29 hX5 tyX5_ok eX5 cX9_16 aX5 zX5 dfX5 (Nat.le_of_ble_eq_true rfl) (Nat.le_of_ble_eq_true rfl) (fun _ q => q.1) (fun _ q => q.new) ?_
  refine r_dup (pc := 32) dX9_init_32 rfl ?_
  refine r_bipush (pc := 33) (v := 6) dX9_init_33 (by decide) ?_
  rw [show Value.int 6 = .int (nI 6) from rfl]
  refine r_ini (pc := 35) (μ' := mX5_init) (P' := Bd c 10 (.inr (.inr (8, [.null, .ref (c + 1), .ref (c + 6), .null, .null, .null, .null, .null, .int 0]))) (fun g => (fun g => (fun g => (fun _ => True) g ∧ CeilK (c + 1) K0 g) g ∧ RowAt (c + 6) 6 [] g) g ∧ RowAt (c + 8) 6 [] g) g) dX9_init_35 nX9_18 iX5_init rfl rfl kX5_init rfl rfl (rr (by decide) rfl) rfl ⟨(Nat.le_of_ble_eq_true rfl), (Nat.le_of_ble_eq_true rfl)⟩ (fun _ q => (ct_Row_init2 (r := c + 8) (cap := 6) (by decide) q.sz q.top).mono (fun v g2 x => ⟨x.1, q.call (w2 := 2) rfl x.2.1 x.2.2.1 x.2.2.2 (fun _ _ s1 s2 q => q.gr ⟨s1, fun j h1 h2 => s2 j (by omega) (by omega)⟩)⟩)) ?_
  refine r_putF (pc := 38) (k := 3) (P' := Bd c 10 (.inr (.inr (8, [.null, .ref (c + 1), .ref (c + 6), .ref (c + 8), .null, .null, .null, .null, .int 0]))) (fun g => (fun g => (fun g => (fun _ => True) g ∧ CeilK (c + 1) K0 g) g ∧ RowAt (c + 6) 6 [] g) g ∧ RowAt (c + 8) 6 [] g) g) tyX9 dX9_init_38 hX9 tyX9_ok nmX9 eX9 (by decide) fX9_25 rfl rfl rfl rfl (fun _ _ => rfl) (fun _ _ => rfl) (Nat.le_of_ble_eq_true rfl) (fun _ q => q.ob) (fun _ q => q.put) ?_
  refine r_aload_n (pc := 41) dX9_init_41 rfl ?_
  refine r_new (pc := 42) (n := c + 10) (P' := BdN c 10 (.inr (.inr (8, [.null, .ref (c + 1), .ref (c + 6), .ref (c + 8), .null, .null, .null, .null, .int 0]))) (fun g => (fun g => (fun g => (fun _ => True) g ∧ CeilK (c + 1) K0 g) g ∧ RowAt (c + 6) 6 [] g) g ∧ RowAt (c + 8) 6 [] g) (.inr (.inr (4, [.null, .int 0]))) g) tyX5 dX9_init_42 hX5 tyX5_ok eX5 cX9_16 aX5 zX5 dfX5 (Nat.le_of_ble_eq_true rfl) (Nat.le_of_ble_eq_true rfl) (fun _ q => q.1) (fun _ q => q.new) ?_
  refine r_dup (pc := 45) dX9_init_45 rfl ?_
  refine r_bipush (pc := 46) (v := 6) dX9_init_46 (by decide) ?_
  rw [show Value.int 6 = .int (nI 6) from rfl]
  refine r_ini (pc := 48) (μ' := mX5_init) (P' := Bd c 12 (.inr (.inr (8, [.null, .ref (c + 1), .ref (c + 6), .ref (c + 8), .null, .null, .null, .null, .int 0]))) (fun g => (fun g => (fun g => (fun g => (fun _ => True) g ∧ CeilK (c + 1) K0 g) g ∧ RowAt (c + 6) 6 [] g) g ∧ RowAt (c + 8) 6 [] g) g ∧ RowAt (c + 10) 6 [] g) g) dX9_init_48 nX9_18 iX5_init rfl rfl kX5_init rfl rfl (rr (by decide) rfl) rfl ⟨(Nat.le_of_ble_eq_true rfl), (Nat.le_of_ble_eq_true rfl)⟩ (fun _ q => (ct_Row_init2 (r := c + 10) (cap := 6) (by decide) q.sz q.top).mono (fun v g2 x => ⟨x.1, q.call (w2 := 2) rfl x.2.1 x.2.2.1 x.2.2.2 (fun _ _ s1 s2 q => q.gr ⟨s1, fun j h1 h2 => s2 j (by omega) (by omega)⟩)⟩)) ?_
  refine r_putF (pc := 51) (k := 4) (P' := Bd c 12 (.inr (.inr (8, [.null, .ref (c + 1), .ref (c + 6), .ref (c + 8), .ref (c + 10), .null, .null, .null, .int 0]))) (fun g => (fun g => (fun g => (fun g => (fun _ => True) g ∧ CeilK (c + 1) K0 g) g ∧ RowAt (c + 6) 6 [] g) g ∧ RowAt (c + 8) 6 [] g) g ∧ RowAt (c + 10) 6 [] g) g) tyX9 dX9_init_51 hX9 tyX9_ok nmX9 eX9 (by decide) fX9_28 rfl rfl rfl rfl (fun _ _ => rfl) (fun _ _ => rfl) (Nat.le_of_ble_eq_true rfl) (fun _ q => q.ob) (fun _ q => q.put) ?_
  refine r_aload_n (pc := 54) dX9_init_54 rfl ?_
  refine r_new (pc := 55) (n := c + 12) (P' := BdN c 12 (.inr (.inr (8, [.null, .ref (c + 1), .ref (c + 6), .ref (c + 8), .ref (c + 10), .null, .null, .null, .int 0]))) (fun g => (fun g => (fun g => (fun g => (fun _ => True) g ∧ CeilK (c + 1) K0 g) g ∧ RowAt (c + 6) 6 [] g) g ∧ RowAt (c + 8) 6 [] g) g ∧ RowAt (c + 10) 6 [] g) (.inr (.inr (4, [.null, .int 0]))) g) tyX5 dX9_init_55 hX5 tyX5_ok eX5 cX9_16 aX5 zX5 dfX5 (Nat.le_of_ble_eq_true rfl) (Nat.le_of_ble_eq_true rfl) (fun _ q => q.1) (fun _ q => q.new) ?_
  refine r_dup (pc := 58) dX9_init_58 rfl ?_
  refine r_sipush (pc := 59) (v := 216) dX9_init_59 (by decide) ?_
  rw [show Value.int 216 = .int (nI 216) from rfl]
  refine r_ini (pc := 62) (μ' := mX5_init) (P' := Bd c 14 (.inr (.inr (8, [.null, .ref (c + 1), .ref (c + 6), .ref (c + 8), .ref (c + 10), .null, .null, .null, .int 0]))) (fun g => (fun g => (fun g => (fun g => (fun g => (fun _ => True) g ∧ CeilK (c + 1) K0 g) g ∧ RowAt (c + 6) 6 [] g) g ∧ RowAt (c + 8) 6 [] g) g ∧ RowAt (c + 10) 6 [] g) g ∧ RowAt (c + 12) 216 [] g) g) dX9_init_62 nX9_18 iX5_init rfl rfl kX5_init rfl rfl (rr (by decide) rfl) rfl ⟨(Nat.le_of_ble_eq_true rfl), (Nat.le_of_ble_eq_true rfl)⟩ (fun _ q => (ct_Row_init2 (r := c + 12) (cap := 216) (by decide) q.sz q.top).mono (fun v g2 x => ⟨x.1, q.call (w2 := 2) rfl x.2.1 x.2.2.1 x.2.2.2 (fun _ _ s1 s2 q => q.gr ⟨s1, fun j h1 h2 => s2 j (by omega) (by omega)⟩)⟩)) ?_
  refine r_putF (pc := 65) (k := 5) (P' := Bd c 14 (.inr (.inr (8, [.null, .ref (c + 1), .ref (c + 6), .ref (c + 8), .ref (c + 10), .ref (c + 12), .null, .null, .int 0]))) (fun g => (fun g => (fun g => (fun g => (fun g => (fun _ => True) g ∧ CeilK (c + 1) K0 g) g ∧ RowAt (c + 6) 6 [] g) g ∧ RowAt (c + 8) 6 [] g) g ∧ RowAt (c + 10) 6 [] g) g ∧ RowAt (c + 12) 216 [] g) g) tyX9 dX9_init_65 hX9 tyX9_ok nmX9 eX9 (by decide) fX9_31 rfl rfl rfl rfl (fun _ _ => rfl) (fun _ _ => rfl) (Nat.le_of_ble_eq_true rfl) (fun _ q => q.ob) (fun _ q => q.put) ?_
  refine r_aload_n (pc := 68) dX9_init_68 rfl ?_
  refine r_new (pc := 69) (n := c + 14) (P' := BdN c 14 (.inr (.inr (8, [.null, .ref (c + 1), .ref (c + 6), .ref (c + 8), .ref (c + 10), .ref (c + 12), .null, .null, .int 0]))) (fun g => (fun g => (fun g => (fun g => (fun g => (fun _ => True) g ∧ CeilK (c + 1) K0 g) g ∧ RowAt (c + 6) 6 [] g) g ∧ RowAt (c + 8) 6 [] g) g ∧ RowAt (c + 10) 6 [] g) g ∧ RowAt (c + 12) 216 [] g) (.inr (.inr (4, [.null, .int 0]))) g) tyX5 dX9_init_69 hX5 tyX5_ok eX5 cX9_16 aX5 zX5 dfX5 (Nat.le_of_ble_eq_true rfl) (Nat.le_of_ble_eq_true rfl) (fun _ q => q.1) (fun _ q => q.new) ?_
  refine r_dup (pc := 72) dX9_init_72 rfl ?_
  refine r_bipush (pc := 73) (v := 6) dX9_init_73 (by decide) ?_
  rw [show Value.int 6 = .int (nI 6) from rfl]
  refine r_ini (pc := 75) (μ' := mX5_init) (P' := Bd c 16 (.inr (.inr (8, [.null, .ref (c + 1), .ref (c + 6), .ref (c + 8), .ref (c + 10), .ref (c + 12), .null, .null, .int 0]))) (fun g => (fun g => (fun g => (fun g => (fun g => (fun g => (fun _ => True) g ∧ CeilK (c + 1) K0 g) g ∧ RowAt (c + 6) 6 [] g) g ∧ RowAt (c + 8) 6 [] g) g ∧ RowAt (c + 10) 6 [] g) g ∧ RowAt (c + 12) 216 [] g) g ∧ RowAt (c + 14) 6 [] g) g) dX9_init_75 nX9_18 iX5_init rfl rfl kX5_init rfl rfl (rr (by decide) rfl) rfl ⟨(Nat.le_of_ble_eq_true rfl), (Nat.le_of_ble_eq_true rfl)⟩ (fun _ q => (ct_Row_init2 (r := c + 14) (cap := 6) (by decide) q.sz q.top).mono (fun v g2 x => ⟨x.1, q.call (w2 := 2) rfl x.2.1 x.2.2.1 x.2.2.2 (fun _ _ s1 s2 q => q.gr ⟨s1, fun j h1 h2 => s2 j (by omega) (by omega)⟩)⟩)) ?_
  refine r_putF (pc := 78) (k := 6) (P' := Bd c 16 (.inr (.inr (8, [.null, .ref (c + 1), .ref (c + 6), .ref (c + 8), .ref (c + 10), .ref (c + 12), .ref (c + 14), .null, .int 0]))) (fun g => (fun g => (fun g => (fun g => (fun g => (fun g => (fun _ => True) g ∧ CeilK (c + 1) K0 g) g ∧ RowAt (c + 6) 6 [] g) g ∧ RowAt (c + 8) 6 [] g) g ∧ RowAt (c + 10) 6 [] g) g ∧ RowAt (c + 12) 216 [] g) g ∧ RowAt (c + 14) 6 [] g) g) tyX9 dX9_init_78 hX9 tyX9_ok nmX9 eX9 (by decide) fX9_34 rfl rfl rfl rfl (fun _ _ => rfl) (fun _ _ => rfl) (Nat.le_of_ble_eq_true rfl) (fun _ q => q.ob) (fun _ q => q.put) ?_
  refine r_aload_n (pc := 81) dX9_init_81 rfl ?_
  refine r_new (pc := 82) (n := c + 16) (P' := BdN c 16 (.inr (.inr (8, [.null, .ref (c + 1), .ref (c + 6), .ref (c + 8), .ref (c + 10), .ref (c + 12), .ref (c + 14), .null, .int 0]))) (fun g => (fun g => (fun g => (fun g => (fun g => (fun g => (fun _ => True) g ∧ CeilK (c + 1) K0 g) g ∧ RowAt (c + 6) 6 [] g) g ∧ RowAt (c + 8) 6 [] g) g ∧ RowAt (c + 10) 6 [] g) g ∧ RowAt (c + 12) 216 [] g) g ∧ RowAt (c + 14) 6 [] g) (.inr (.inr (4, [.null, .int 0]))) g) tyX5 dX9_init_82 hX5 tyX5_ok eX5 cX9_16 aX5 zX5 dfX5 (Nat.le_of_ble_eq_true rfl) (Nat.le_of_ble_eq_true rfl) (fun _ q => q.1) (fun _ q => q.new) ?_
  refine r_dup (pc := 85) dX9_init_85 rfl ?_
  refine r_bipush (pc := 86) (v := 6) dX9_init_86 (by decide) ?_
  rw [show Value.int 6 = .int (nI 6) from rfl]
  refine r_ini (pc := 88) (μ' := mX5_init) (P' := Bd c 18 (.inr (.inr (8, [.null, .ref (c + 1), .ref (c + 6), .ref (c + 8), .ref (c + 10), .ref (c + 12), .ref (c + 14), .null, .int 0]))) (fun g => (fun g => (fun g => (fun g => (fun g => (fun g => (fun g => (fun _ => True) g ∧ CeilK (c + 1) K0 g) g ∧ RowAt (c + 6) 6 [] g) g ∧ RowAt (c + 8) 6 [] g) g ∧ RowAt (c + 10) 6 [] g) g ∧ RowAt (c + 12) 216 [] g) g ∧ RowAt (c + 14) 6 [] g) g ∧ RowAt (c + 16) 6 [] g) g) dX9_init_88 nX9_18 iX5_init rfl rfl kX5_init rfl rfl (rr (by decide) rfl) rfl ⟨(Nat.le_of_ble_eq_true rfl), (Nat.le_of_ble_eq_true rfl)⟩ (fun _ q => (ct_Row_init2 (r := c + 16) (cap := 6) (by decide) q.sz q.top).mono (fun v g2 x => ⟨x.1, q.call (w2 := 2) rfl x.2.1 x.2.2.1 x.2.2.2 (fun _ _ s1 s2 q => q.gr ⟨s1, fun j h1 h2 => s2 j (by omega) (by omega)⟩)⟩)) ?_
  refine r_putF (pc := 91) (k := 7) (P' := Bd c 18 (.inr (.inr (8, [.null, .ref (c + 1), .ref (c + 6), .ref (c + 8), .ref (c + 10), .ref (c + 12), .ref (c + 14), .ref (c + 16), .int 0]))) (fun g => (fun g => (fun g => (fun g => (fun g => (fun g => (fun g => (fun _ => True) g ∧ CeilK (c + 1) K0 g) g ∧ RowAt (c + 6) 6 [] g) g ∧ RowAt (c + 8) 6 [] g) g ∧ RowAt (c + 10) 6 [] g) g ∧ RowAt (c + 12) 216 [] g) g ∧ RowAt (c + 14) 6 [] g) g ∧ RowAt (c + 16) 6 [] g) g) tyX9 dX9_init_91 hX9 tyX9_ok nmX9 eX9 (by decide) fX9_37 rfl rfl rfl rfl (fun _ _ => rfl) (fun _ _ => rfl) (Nat.le_of_ble_eq_true rfl) (fun _ q => q.ob) (fun _ q => q.put) ?_
  refine r_aload_n (pc := 94) dX9_init_94 rfl ?_
  refine r_iconst (pc := 95) (v := 0) dX9_init_95 (by decide) ?_
  refine r_putf (pc := 96) (k := 8) (P' := Bd c 18 (.inr (.inr (8, [.null, .ref (c + 1), .ref (c + 6), .ref (c + 8), .ref (c + 10), .ref (c + 12), .ref (c + 14), .ref (c + 16), .int 0]))) (fun g => (fun g => (fun g => (fun g => (fun g => (fun g => (fun g => (fun _ => True) g ∧ CeilK (c + 1) K0 g) g ∧ RowAt (c + 6) 6 [] g) g ∧ RowAt (c + 8) 6 [] g) g ∧ RowAt (c + 10) 6 [] g) g ∧ RowAt (c + 12) 216 [] g) g ∧ RowAt (c + 14) 6 [] g) g ∧ RowAt (c + 16) 6 [] g) g) tyX9 dX9_init_96 hX9 tyX9_ok nmX9 eX9 (by decide) fX9_40 rfl rfl (fun _ _ => rfl) (fun _ _ => rfl) (Nat.le_of_ble_eq_true rfl) (fun _ q => q.ob) (fun _ q => q.put) ?_
  refine r_aload_n (pc := 99) dX9_init_99 rfl ?_
  refine r_aload_n (pc := 100) dX9_init_100 rfl ?_
  refine r_putF (pc := 101) (k := 0) (P' := Bd c 18 (.inr (.inr (8, [.ref ε, .ref (c + 1), .ref (c + 6), .ref (c + 8), .ref (c + 10), .ref (c + 12), .ref (c + 14), .ref (c + 16), .int 0]))) (fun g => (fun g => (fun g => (fun g => (fun g => (fun g => (fun g => (fun _ => True) g ∧ CeilK (c + 1) K0 g) g ∧ RowAt (c + 6) 6 [] g) g ∧ RowAt (c + 8) 6 [] g) g ∧ RowAt (c + 10) 6 [] g) g ∧ RowAt (c + 12) 216 [] g) g ∧ RowAt (c + 14) 6 [] g) g ∧ RowAt (c + 16) 6 [] g) g) tyX9 dX9_init_101 hX9 tyX9_ok nmX9 eX9 (by decide) fX9_44 rfl rfl rfl rfl (fun _ _ => rfl) (fun _ _ => rfl) (Nat.le_of_ble_eq_true rfl) (fun _ q => q.ob) (fun _ q => q.put) ?_
  refine r_return (pc := 104) dX9_init_104 rfl ⟨(Nat.le_of_ble_eq_true rfl), (Nat.le_of_ble_eq_true rfl)⟩ (fun gE hg => ?_)
  exact ⟨rfl, ⟨_, _, _, _, _, _, _, _, ⟨hg.ob.1, hg.ob.2⟩, hg.cc.1.1.1.1.1.1.2, hg.cc.1.1.1.1.1.2, hg.cc.1.1.1.1.2, hg.cc.1.1.1.2, hg.cc.1.1.2, hg.cc.1.2, hg.cc.2⟩, hg.1, hg.2.1⟩
set_option maxHeartbeats 8000000 in
theorem ct_Eye_init {c td : Nat} {g : AH} (hd : td + 10 ≤ c) (hr : c + 1 = g.1) (ho : g.2 c = .inr (.inr (2, [.null, .null, .null, .null]))) (hD : TextAt td 0 [] g) (hL : TextAt (td + 5) 1 [] g) : CT 5 4 3364 mX2_init [.ref c, .ref td, .ref (td + 5)] g (fun v g' => v = none ∧ EyeK c td [] [] (List.replicate 360 0) (List.replicate 3000 0) g' ∧ g'.1 = c + 5 ∧ ∀ j, j < c → g'.2 j = g.2 j) := by
  refine ct_of (by decide) (fun _ _ => Nat.le_of_ble_eq_true rfl) ?_
  dsimp only [pad, ent]
  refine aw_P (P' := Bd c 1 (.inr (.inr (2, [.null, .null, .null, .null]))) (fun _ => True) g) (fun g' e => by subst e; exact ⟨hr.symm, fun _ _ => rfl, ho, trivial, fun _ _ _ _ _ => trivial⟩) ?_
  refine r_aload_n (pc := 0) dX2_init_0 rfl ?_
  refine r_objInit (pc := 1) dX2_init_1 nX2_3 oi_i oi_c ⟨(Nat.le_of_ble_eq_true rfl), (Nat.le_of_ble_eq_true rfl)⟩ (Nat.le_of_ble_eq_true rfl) ?_
  refine r_aload_n (pc := 4) dX2_init_4 rfl ?_
  refine r_new (pc := 5) (n := c + 1) (P' := BdN c 1 (.inr (.inr (2, [.null, .null, .null, .null]))) (fun _ => True) (.inr (.inr (4, [.null, .int 0]))) g) tyX5 dX2_init_5 hX5 tyX5_ok eX5 cX2_9 aX5 zX5 dfX5 (Nat.le_of_ble_eq_true rfl) (Nat.le_of_ble_eq_true rfl) (fun _ q => q.1) (fun _ q => q.new) ?_
  refine r_dup (pc := 8) dX2_init_8 rfl ?_
  refine r_sipush (pc := 9) (v := 360) dX2_init_9 (by decide) ?_
  rw [show Value.int 360 = .int (nI 360) from rfl]
  refine r_ini (pc := 12) (μ' := mX5_init) (P' := Bd c 3 (.inr (.inr (2, [.null, .null, .null, .null]))) (fun g => (fun _ => True) g ∧ RowAt (c + 1) 360 [] g) g) dX2_init_12 nX2_13 iX5_init rfl rfl kX5_init rfl rfl (rr (by decide) rfl) rfl ⟨(Nat.le_of_ble_eq_true rfl), (Nat.le_of_ble_eq_true rfl)⟩ (fun _ q => (ct_Row_init2 (r := c + 1) (cap := 360) (by decide) q.sz q.top).mono (fun v g2 x => ⟨x.1, q.call (w2 := 2) rfl x.2.1 x.2.2.1 x.2.2.2 (fun _ _ s1 s2 q => q.gr ⟨s1, fun j h1 h2 => s2 j (by omega) (by omega)⟩)⟩)) ?_
  refine r_putF (pc := 15) (k := 2) (P' := Bd c 3 (.inr (.inr (2, [.null, .null, .ref (c + 1), .null]))) (fun g => (fun _ => True) g ∧ RowAt (c + 1) 360 [] g) g) tyX2 dX2_init_15 hX2 tyX2_ok nmX2 eX2 (by decide) fX2_16 rfl rfl rfl rfl (fun _ _ => rfl) (fun _ _ => rfl) (Nat.le_of_ble_eq_true rfl) (fun _ q => q.ob) (fun _ q => q.put) ?_
  refine r_aload_n (pc := 18) dX2_init_18 rfl ?_
  refine r_new (pc := 19) (n := c + 3) (P' := BdN c 3 (.inr (.inr (2, [.null, .null, .ref (c + 1), .null]))) (fun g => (fun _ => True) g ∧ RowAt (c + 1) 360 [] g) (.inr (.inr (4, [.null, .int 0]))) g) tyX5 dX2_init_19 hX5 tyX5_ok eX5 cX2_9 aX5 zX5 dfX5 (Nat.le_of_ble_eq_true rfl) (Nat.le_of_ble_eq_true rfl) (fun _ q => q.1) (fun _ q => q.new) ?_
  refine r_dup (pc := 22) dX2_init_22 rfl ?_
  refine r_sipush (pc := 23) (v := 3000) dX2_init_23 (by decide) ?_
  rw [show Value.int 3000 = .int (nI 3000) from rfl]
  refine r_ini (pc := 26) (μ' := mX5_init) (P' := Bd c 5 (.inr (.inr (2, [.null, .null, .ref (c + 1), .null]))) (fun g => (fun g => (fun _ => True) g ∧ RowAt (c + 1) 360 [] g) g ∧ RowAt (c + 3) 3000 [] g) g) dX2_init_26 nX2_13 iX5_init rfl rfl kX5_init rfl rfl (rr (by decide) rfl) rfl ⟨(Nat.le_of_ble_eq_true rfl), (Nat.le_of_ble_eq_true rfl)⟩ (fun _ q => (ct_Row_init2 (r := c + 3) (cap := 3000) (by decide) q.sz q.top).mono (fun v g2 x => ⟨x.1, q.call (w2 := 2) rfl x.2.1 x.2.2.1 x.2.2.2 (fun _ _ s1 s2 q => q.gr ⟨s1, fun j h1 h2 => s2 j (by omega) (by omega)⟩)⟩)) ?_
  refine r_putF (pc := 29) (k := 3) (P' := Bd c 5 (.inr (.inr (2, [.null, .null, .ref (c + 1), .ref (c + 3)]))) (fun g => (fun g => (fun _ => True) g ∧ RowAt (c + 1) 360 [] g) g ∧ RowAt (c + 3) 3000 [] g) g) tyX2 dX2_init_29 hX2 tyX2_ok nmX2 eX2 (by decide) fX2_20 rfl rfl rfl rfl (fun _ _ => rfl) (fun _ _ => rfl) (Nat.le_of_ble_eq_true rfl) (fun _ q => q.ob) (fun _ q => q.put) ?_
  refine r_aload_n (pc := 32) dX2_init_32 rfl ?_
  refine r_aload_n (pc := 33) dX2_init_33 rfl ?_
  refine r_putF (pc := 34) (k := 0) (P' := Bd c 5 (.inr (.inr (2, [.ref td, .null, .ref (c + 1), .ref (c + 3)]))) (fun g => (fun g => (fun _ => True) g ∧ RowAt (c + 1) 360 [] g) g ∧ RowAt (c + 3) 3000 [] g) g) tyX2 dX2_init_34 hX2 tyX2_ok nmX2 eX2 (by decide) fX2_23 rfl rfl rfl rfl (fun _ _ => rfl) (fun _ _ => rfl) (Nat.le_of_ble_eq_true rfl) (fun _ q => q.ob) (fun _ q => q.put) ?_
  refine r_aload_n (pc := 37) dX2_init_37 rfl ?_
  refine r_aload_n (pc := 38) dX2_init_38 rfl ?_
  refine r_putF (pc := 39) (k := 1) (P' := Bd c 5 (.inr (.inr (2, [.ref td, .ref (td + 5), .ref (c + 1), .ref (c + 3)]))) (fun g => (fun g => (fun _ => True) g ∧ RowAt (c + 1) 360 [] g) g ∧ RowAt (c + 3) 3000 [] g) g) tyX2 dX2_init_39 hX2 tyX2_ok nmX2 eX2 (by decide) fX2_27 rfl rfl rfl rfl (fun _ _ => rfl) (fun _ _ => rfl) (Nat.le_of_ble_eq_true rfl) (fun _ q => q.ob) (fun _ q => q.put) ?_
  have c1 : clampI 360 360 = 360 := by decide
  have c2 : clampI 3000 3000 = 3000 := by decide
  refine aw_P (P' := fun g' => EyeK c td [] [] [] [] g' ∧ g'.1 = c + 5 ∧ ∀ j, j < c → g'.2 j = g.2 j) (fun g' q => by
    have e : ∀ lo w, lo + w ≤ c → Gr lo w g g' := fun lo w h => ⟨by rw [← hr, q.1]; omega, fun j h1 h2 => q.2.1 j (by omega)⟩
    exact ⟨⟨q.ob.1, q.ob.2, q.cc.1.2, q.cc.2, hD.gr (e _ _ (by omega)), hL.gr (e _ _ (by omega)), by omega⟩, q.1, q.2.1⟩) ?_
  refine r_aload_n (pc := 42) dX2_init_42 rfl ?_
  refine r_getf (pc := 43) (k := 2) dX2_init_43 hX2 eX2 (by decide) fX2_16 (fun _ q => q.1.o) rfl ?_
  refine r_sipush (pc := 46) (v := 360) dX2_init_46 (by decide) ?_
  refine r_iconst (pc := 49) (v := 0) dX2_init_49 (by decide) ?_
  refine r_Vv (pc := 50) (μ' := mX5_fill) dX2_init_50 nX2_30 iX5_fill vX5_fill kX5_fill rfl rfl (rr (by decide) rfl) rfl ⟨(Nat.le_of_ble_eq_true rfl), (Nat.le_of_ble_eq_true rfl)⟩ (fun g' q => ct_Row_fill (P' := fun g2 => EyeK c td [] [] (List.replicate 360 0) [] g2 ∧ g2.1 = c + 5 ∧ ∀ j, j < c → g2.2 j = g.2 j) q.1.2.2.1 (fun g2 x y => ⟨q.1.setD (by rw [c1] at x; exact x) y, by rw [y.1]; exact q.2.1, fun j hj => by rw [y.2 j (by omega)]; exact q.2.2 j hj⟩)) ?_
  refine r_aload_n (pc := 53) dX2_init_53 rfl ?_
  refine r_getf (pc := 54) (k := 3) dX2_init_54 hX2 eX2 (by decide) fX2_20 (fun _ q => q.1.o) rfl ?_
  refine r_sipush (pc := 57) (v := 3000) dX2_init_57 (by decide) ?_
  refine r_iconst (pc := 60) (v := 0) dX2_init_60 (by decide) ?_
  refine r_Vv (pc := 61) (μ' := mX5_fill) dX2_init_61 nX2_30 iX5_fill vX5_fill kX5_fill rfl rfl (rr (by decide) rfl) rfl ⟨(Nat.le_of_ble_eq_true rfl), (Nat.le_of_ble_eq_true rfl)⟩ (fun g' q => ct_Row_fill (P' := fun g2 => EyeK c td [] [] (List.replicate 360 0) (List.replicate 3000 0) g2 ∧ g2.1 = c + 5 ∧ ∀ j, j < c → g2.2 j = g.2 j) q.1.2.2.2.1 (fun g2 x y => ⟨q.1.setL (by rw [c2] at x; exact x) y, by rw [y.1]; exact q.2.1, fun j hj => by rw [y.2 j (by omega)]; exact q.2.2 j hj⟩)) ?_
  refine r_return (pc := 64) dX2_init_64 rfl ⟨(Nat.le_of_ble_eq_true rfl), (Nat.le_of_ble_eq_true rfl)⟩ (fun gE hg => ?_)
  skip
  exact ⟨rfl, hg⟩
set_option maxHeartbeats 8000000 in
theorem ct_G_init {o : Nat} {g : AH} (hr : o + 1 = g.1) (ho : g.2 o = .inr (.inr (10, [.null, .null, .null, .null, .null, .null, .null, .null, .int 0]))) : CT 8 94 4810 mX11_init [.ref o] g (fun v g' => v = none ∧ GA o K0 [] [] [] [] [] 1 (K0, [], [], [], [], [], 1) (fun _ => 0) (fun _ => []) [] (List.replicate 6 0) 0 g' ∧ g'.1 = o + 95 ∧ ∀ j, j < o → g'.2 j = g.2 j) := by
  refine ct_of (by decide) (fun _ _ => Nat.le_of_ble_eq_true rfl) ?_
  dsimp only [pad, ent]
  refine aw_P (P' := Bd o 1 (.inr (.inr (10, [.null, .null, .null, .null, .null, .null, .null, .null, .int 0]))) (fun _ => True) g) (fun g' e => by subst e; exact ⟨hr.symm, fun _ _ => rfl, ho, trivial, fun _ _ _ _ _ => trivial⟩) ?_
  refine r_aload_n (pc := 0) dX11_init_0 rfl ?_
  refine r_objInit (pc := 1) dX11_init_1 nX11_1 oi_i oi_c ⟨(Nat.le_of_ble_eq_true rfl), (Nat.le_of_ble_eq_true rfl)⟩ (Nat.le_of_ble_eq_true rfl) ?_
  refine r_aload_n (pc := 4) dX11_init_4 rfl ?_
  refine r_new (pc := 5) (n := o + 1) (P' := BdN o 1 (.inr (.inr (10, [.null, .null, .null, .null, .null, .null, .null, .null, .int 0]))) (fun _ => True) (.inr (.inr (6, [.null, .null, .null, .null, .null, .null, .int 0]))) g) tyX7 dX11_init_5 hX7 tyX7_ok eX7 cX11_7 aX7 zX7 dfX7 (Nat.le_of_ble_eq_true rfl) (Nat.le_of_ble_eq_true rfl) (fun _ q => q.1) (fun _ q => q.new) ?_
  refine r_dup (pc := 8) dX11_init_8 rfl ?_
  refine r_ini (pc := 9) (μ' := mX7_init) (P' := Bd o 26 (.inr (.inr (10, [.null, .null, .null, .null, .null, .null, .null, .null, .int 0]))) (fun g => (fun _ => True) g ∧ StK (o + 1) K0 [] [] [] [] [] 1 g) g) dX11_init_9 nX11_9 iX7_init rfl rfl kX7_init rfl rfl (rr (by decide) rfl) rfl ⟨(Nat.le_of_ble_eq_true rfl), (Nat.le_of_ble_eq_true rfl)⟩ (fun _ q => (ct_State_init (c := o + 1) q.sz q.top).mono (fun v g2 x => ⟨x.1, q.call (w2 := 25) rfl x.2.1 x.2.2.1 x.2.2.2 (fun _ _ s1 s2 q => q.gr ⟨s1, fun j h1 h2 => s2 j (by omega) (by omega)⟩)⟩)) ?_
  refine r_putF (pc := 12) (k := 0) (P' := Bd o 26 (.inr (.inr (10, [.ref (o + 1), .null, .null, .null, .null, .null, .null, .null, .int 0]))) (fun g => (fun _ => True) g ∧ StK (o + 1) K0 [] [] [] [] [] 1 g) g) tyX11 dX11_init_12 hX11 tyX11_ok nmX11 eX11 (by decide) fX11_10 rfl rfl rfl rfl (fun _ _ => rfl) (fun _ _ => rfl) (Nat.le_of_ble_eq_true rfl) (fun _ q => q.ob) (fun _ q => q.put) ?_
  refine r_aload_n (pc := 15) dX11_init_15 rfl ?_
  refine r_new (pc := 16) (n := o + 26) (P' := BdN o 26 (.inr (.inr (10, [.ref (o + 1), .null, .null, .null, .null, .null, .null, .null, .int 0]))) (fun g => (fun _ => True) g ∧ StK (o + 1) K0 [] [] [] [] [] 1 g) (.inr (.inr (6, [.null, .null, .null, .null, .null, .null, .int 0]))) g) tyX7 dX11_init_16 hX7 tyX7_ok eX7 cX11_7 aX7 zX7 dfX7 (Nat.le_of_ble_eq_true rfl) (Nat.le_of_ble_eq_true rfl) (fun _ q => q.1) (fun _ q => q.new) ?_
  refine r_dup (pc := 19) dX11_init_19 rfl ?_
  refine r_ini (pc := 20) (μ' := mX7_init) (P' := Bd o 51 (.inr (.inr (10, [.ref (o + 1), .null, .null, .null, .null, .null, .null, .null, .int 0]))) (fun g => (fun g => (fun _ => True) g ∧ StK (o + 1) K0 [] [] [] [] [] 1 g) g ∧ StK (o + 26) K0 [] [] [] [] [] 1 g) g) dX11_init_20 nX11_9 iX7_init rfl rfl kX7_init rfl rfl (rr (by decide) rfl) rfl ⟨(Nat.le_of_ble_eq_true rfl), (Nat.le_of_ble_eq_true rfl)⟩ (fun _ q => (ct_State_init (c := o + 26) q.sz q.top).mono (fun v g2 x => ⟨x.1, q.call (w2 := 25) rfl x.2.1 x.2.2.1 x.2.2.2 (fun _ _ s1 s2 q => q.gr ⟨s1, fun j h1 h2 => s2 j (by omega) (by omega)⟩)⟩)) ?_
  refine r_putF (pc := 23) (k := 1) (P' := Bd o 51 (.inr (.inr (10, [.ref (o + 1), .ref (o + 26), .null, .null, .null, .null, .null, .null, .int 0]))) (fun g => (fun g => (fun _ => True) g ∧ StK (o + 1) K0 [] [] [] [] [] 1 g) g ∧ StK (o + 26) K0 [] [] [] [] [] 1 g) g) tyX11 dX11_init_23 hX11 tyX11_ok nmX11 eX11 (by decide) fX11_16 rfl rfl rfl rfl (fun _ _ => rfl) (fun _ _ => rfl) (Nat.le_of_ble_eq_true rfl) (fun _ q => q.ob) (fun _ q => q.put) ?_
  refine r_aload_n (pc := 26) dX11_init_26 rfl ?_
  refine r_new (pc := 27) (n := o + 51) (P' := BdN o 51 (.inr (.inr (10, [.ref (o + 1), .ref (o + 26), .null, .null, .null, .null, .null, .null, .int 0]))) (fun g => (fun g => (fun _ => True) g ∧ StK (o + 1) K0 [] [] [] [] [] 1 g) g ∧ StK (o + 26) K0 [] [] [] [] [] 1 g) (.inr (.inr (3, [.null, .null, .null, .int 0, .int 0]))) g) tyX4 dX11_init_27 hX4 tyX4_ok eX4 cX11_19 aX4 zX4 dfX4 (Nat.le_of_ble_eq_true rfl) (Nat.le_of_ble_eq_true rfl) (fun _ q => q.1) (fun _ q => q.new) ?_
  refine r_dup (pc := 30) dX11_init_30 rfl ?_
  refine r_ini (pc := 31) (μ' := mX4_init) (P' := Bd o 54 (.inr (.inr (10, [.ref (o + 1), .ref (o + 26), .null, .null, .null, .null, .null, .null, .int 0]))) (fun g => (fun g => (fun g => (fun _ => True) g ∧ StK (o + 1) K0 [] [] [] [] [] 1 g) g ∧ StK (o + 26) K0 [] [] [] [] [] 1 g) g ∧ RdAny (o + 51) g) g) dX11_init_31 nX11_21 iX4_init rfl rfl kX4_init rfl rfl (rr (by decide) rfl) rfl ⟨(Nat.le_of_ble_eq_true rfl), (Nat.le_of_ble_eq_true rfl)⟩ (fun _ q => (ct_Rd_init (c := o + 51) q.sz q.top).mono (fun v g2 x => ⟨x.1, q.call (w2 := 3) rfl x.2.1 x.2.2.1 x.2.2.2 (fun _ _ s1 s2 q => q.gr ⟨s1, fun j h1 h2 => s2 j (by omega) (by omega)⟩)⟩)) ?_
  refine r_putF (pc := 34) (k := 2) (P' := Bd o 54 (.inr (.inr (10, [.ref (o + 1), .ref (o + 26), .ref (o + 51), .null, .null, .null, .null, .null, .int 0]))) (fun g => (fun g => (fun g => (fun _ => True) g ∧ StK (o + 1) K0 [] [] [] [] [] 1 g) g ∧ StK (o + 26) K0 [] [] [] [] [] 1 g) g ∧ RdAny (o + 51) g) g) tyX11 dX11_init_34 hX11 tyX11_ok nmX11 eX11 (by decide) fX11_22 rfl rfl rfl rfl (fun _ _ => rfl) (fun _ _ => rfl) (Nat.le_of_ble_eq_true rfl) (fun _ q => q.ob) (fun _ q => q.put) ?_
  refine r_aload_n (pc := 37) dX11_init_37 rfl ?_
  refine r_new (pc := 38) (n := o + 54) (P' := BdN o 54 (.inr (.inr (10, [.ref (o + 1), .ref (o + 26), .ref (o + 51), .null, .null, .null, .null, .null, .int 0]))) (fun g => (fun g => (fun g => (fun _ => True) g ∧ StK (o + 1) K0 [] [] [] [] [] 1 g) g ∧ StK (o + 26) K0 [] [] [] [] [] 1 g) g ∧ RdAny (o + 51) g) (.inr (.inr (2, [.null, .null, .null, .null]))) g) tyX2 dX11_init_38 hX2 tyX2_ok eX2 cX11_26 aX2 zX2 dfX2 (Nat.le_of_ble_eq_true rfl) (Nat.le_of_ble_eq_true rfl) (fun _ q => q.1) (fun _ q => q.new) ?_
  refine r_dup (pc := 41) dX11_init_41 rfl ?_
  refine r_aload_n (pc := 42) dX11_init_42 rfl ?_
  refine r_getf (pc := 43) (k := 0) dX11_init_43 hX11 eX11 (by decide) fX11_10 (fun _ q => q.ob) rfl ?_
  refine r_getf (pc := 46) (k := 2) dX11_init_46 hX7 eX7 (by decide) fX11_28 (fun _ q => StAt.o q.cc.1.1.2) rfl ?_
  refine r_aload_n (pc := 49) dX11_init_49 rfl ?_
  refine r_getf (pc := 50) (k := 0) dX11_init_50 hX11 eX11 (by decide) fX11_10 (fun _ q => q.ob) rfl ?_
  refine r_getf (pc := 53) (k := 3) dX11_init_53 hX7 eX7 (by decide) fX11_32 (fun _ q => StAt.o q.cc.1.1.2) rfl ?_
  refine r_ini (pc := 56) (μ' := mX2_init) (P' := Bd o 59 (.inr (.inr (10, [.ref (o + 1), .ref (o + 26), .ref (o + 51), .null, .null, .null, .null, .null, .int 0]))) (fun g => (fun g => (fun g => (fun g => (fun _ => True) g ∧ StK (o + 1) K0 [] [] [] [] [] 1 g) g ∧ StK (o + 26) K0 [] [] [] [] [] 1 g) g ∧ RdAny (o + 51) g) g ∧ EyeK (o + 54) (o + 12) [] [] (List.replicate 360 0) (List.replicate 3000 0) g) g) dX11_init_56 nX11_35 iX2_init rfl rfl kX2_init rfl rfl (rr (by decide) rfl) rfl ⟨(Nat.le_of_ble_eq_true rfl), (Nat.le_of_ble_eq_true rfl)⟩ (fun _ q => (ct_Eye_init (c := o + 54) (td := o + 12) (by omega) q.sz q.top q.cc.1.1.2.2.2.2.1 q.cc.1.1.2.2.2.2.2.1).mono (fun v g2 x => ⟨x.1, q.call (w2 := 5) rfl x.2.1 x.2.2.1 x.2.2.2 (fun _ _ s1 s2 q => q.gr ⟨s1, fun j h1 h2 => s2 j (by omega) (by omega)⟩ ⟨s1, fun j h1 h2 => s2 j (by omega) (by omega)⟩)⟩)) ?_
  refine r_putF (pc := 59) (k := 3) (P' := Bd o 59 (.inr (.inr (10, [.ref (o + 1), .ref (o + 26), .ref (o + 51), .ref (o + 54), .null, .null, .null, .null, .int 0]))) (fun g => (fun g => (fun g => (fun g => (fun _ => True) g ∧ StK (o + 1) K0 [] [] [] [] [] 1 g) g ∧ StK (o + 26) K0 [] [] [] [] [] 1 g) g ∧ RdAny (o + 51) g) g ∧ EyeK (o + 54) (o + 12) [] [] (List.replicate 360 0) (List.replicate 3000 0) g) g) tyX11 dX11_init_59 hX11 tyX11_ok nmX11 eX11 (by decide) fX11_38 rfl rfl rfl rfl (fun _ _ => rfl) (fun _ _ => rfl) (Nat.le_of_ble_eq_true rfl) (fun _ q => q.ob) (fun _ q => q.put) ?_
  refine r_aload_n (pc := 62) dX11_init_62 rfl ?_
  refine r_new (pc := 63) (n := o + 59) (P' := BdN o 59 (.inr (.inr (10, [.ref (o + 1), .ref (o + 26), .ref (o + 51), .ref (o + 54), .null, .null, .null, .null, .int 0]))) (fun g => (fun g => (fun g => (fun g => (fun _ => True) g ∧ StK (o + 1) K0 [] [] [] [] [] 1 g) g ∧ StK (o + 26) K0 [] [] [] [] [] 1 g) g ∧ RdAny (o + 51) g) g ∧ EyeK (o + 54) (o + 12) [] [] (List.replicate 360 0) (List.replicate 3000 0) g) (.inr (.inr (8, [.null, .null, .null, .null, .null, .null, .null, .null, .int 0]))) g) tyX9 dX11_init_63 hX9 tyX9_ok eX9 cX11_42 aX9 zX9 dfX9 (Nat.le_of_ble_eq_true rfl) (Nat.le_of_ble_eq_true rfl) (fun _ q => q.1) (fun _ q => q.new) ?_
  refine r_dup (pc := 66) dX11_init_66 rfl ?_
  refine r_aload_n (pc := 67) dX11_init_67 rfl ?_
  refine r_getf (pc := 68) (k := 3) dX11_init_68 hX11 eX11 (by decide) fX11_38 (fun _ q => q.ob) rfl ?_
  refine r_ini (pc := 71) (μ' := mX9_init) (P' := Bd o 77 (.inr (.inr (10, [.ref (o + 1), .ref (o + 26), .ref (o + 51), .ref (o + 54), .null, .null, .null, .null, .int 0]))) (fun g => (fun g => (fun g => (fun g => (fun g => (fun _ => True) g ∧ StK (o + 1) K0 [] [] [] [] [] 1 g) g ∧ StK (o + 26) K0 [] [] [] [] [] 1 g) g ∧ RdAny (o + 51) g) g ∧ EyeK (o + 54) (o + 12) [] [] (List.replicate 360 0) (List.replicate 3000 0) g) g ∧ ThAny (o + 59) ((o + 54)) g) g) dX11_init_71 nX11_44 iX9_init rfl rfl kX9_init rfl rfl (rr (by decide) rfl) rfl ⟨(Nat.le_of_ble_eq_true rfl), (Nat.le_of_ble_eq_true rfl)⟩ (fun _ q => (ct_Th_init (c := o + 59) (ε := (o + 54)) q.sz q.top).mono (fun v g2 x => ⟨x.1, q.call (w2 := 18) rfl x.2.1 x.2.2.1 x.2.2.2 (fun _ _ s1 s2 q => q.gr ⟨s1, fun j h1 h2 => s2 j (by omega) (by omega)⟩)⟩)) ?_
  refine r_putF (pc := 74) (k := 4) (P' := Bd o 77 (.inr (.inr (10, [.ref (o + 1), .ref (o + 26), .ref (o + 51), .ref (o + 54), .ref (o + 59), .null, .null, .null, .int 0]))) (fun g => (fun g => (fun g => (fun g => (fun g => (fun _ => True) g ∧ StK (o + 1) K0 [] [] [] [] [] 1 g) g ∧ StK (o + 26) K0 [] [] [] [] [] 1 g) g ∧ RdAny (o + 51) g) g ∧ EyeK (o + 54) (o + 12) [] [] (List.replicate 360 0) (List.replicate 3000 0) g) g ∧ ThAny (o + 59) ((o + 54)) g) g) tyX11 dX11_init_74 hX11 tyX11_ok nmX11 eX11 (by decide) fX11_47 rfl rfl rfl rfl (fun _ _ => rfl) (fun _ _ => rfl) (Nat.le_of_ble_eq_true rfl) (fun _ q => q.ob) (fun _ q => q.put) ?_
  refine r_aload_n (pc := 77) dX11_init_77 rfl ?_
  refine r_new (pc := 78) (n := o + 77) (P' := BdN o 77 (.inr (.inr (10, [.ref (o + 1), .ref (o + 26), .ref (o + 51), .ref (o + 54), .ref (o + 59), .null, .null, .null, .int 0]))) (fun g => (fun g => (fun g => (fun g => (fun g => (fun _ => True) g ∧ StK (o + 1) K0 [] [] [] [] [] 1 g) g ∧ StK (o + 26) K0 [] [] [] [] [] 1 g) g ∧ RdAny (o + 51) g) g ∧ EyeK (o + 54) (o + 12) [] [] (List.replicate 360 0) (List.replicate 3000 0) g) g ∧ ThAny (o + 59) ((o + 54)) g) (.inr (.inr (9, [.null, .int 0, .int 0, .int 0]))) g) tyX10 dX11_init_78 hX10 tyX10_ok eX10 cX11_51 aX10 zX10 dfX10 (Nat.le_of_ble_eq_true rfl) (Nat.le_of_ble_eq_true rfl) (fun _ q => q.1) (fun _ q => q.new) ?_
  refine r_dup (pc := 81) dX11_init_81 rfl ?_
  refine r_ini (pc := 82) (μ' := mX10_init) (P' := Bd o 80 (.inr (.inr (10, [.ref (o + 1), .ref (o + 26), .ref (o + 51), .ref (o + 54), .ref (o + 59), .null, .null, .null, .int 0]))) (fun g => (fun g => (fun g => (fun g => (fun g => (fun g => (fun _ => True) g ∧ StK (o + 1) K0 [] [] [] [] [] 1 g) g ∧ StK (o + 26) K0 [] [] [] [] [] 1 g) g ∧ RdAny (o + 51) g) g ∧ EyeK (o + 54) (o + 12) [] [] (List.replicate 360 0) (List.replicate 3000 0) g) g ∧ ThAny (o + 59) ((o + 54)) g) g ∧ VoX (o + 77) [] g) g) dX11_init_82 nX11_53 iX10_init rfl rfl kX10_init rfl rfl (rr (by decide) rfl) rfl ⟨(Nat.le_of_ble_eq_true rfl), (Nat.le_of_ble_eq_true rfl)⟩ (fun _ q => (ct_Vo_init (c := o + 77) q.sz q.top).mono (fun v g2 x => ⟨x.1, q.call (w2 := 3) rfl x.2.1 x.2.2.1 x.2.2.2 (fun _ _ s1 s2 q => q.gr ⟨s1, fun j h1 h2 => s2 j (by omega) (by omega)⟩)⟩)) ?_
  refine r_putF (pc := 85) (k := 5) (P' := Bd o 80 (.inr (.inr (10, [.ref (o + 1), .ref (o + 26), .ref (o + 51), .ref (o + 54), .ref (o + 59), .ref (o + 77), .null, .null, .int 0]))) (fun g => (fun g => (fun g => (fun g => (fun g => (fun g => (fun _ => True) g ∧ StK (o + 1) K0 [] [] [] [] [] 1 g) g ∧ StK (o + 26) K0 [] [] [] [] [] 1 g) g ∧ RdAny (o + 51) g) g ∧ EyeK (o + 54) (o + 12) [] [] (List.replicate 360 0) (List.replicate 3000 0) g) g ∧ ThAny (o + 59) ((o + 54)) g) g ∧ VoX (o + 77) [] g) g) tyX11 dX11_init_85 hX11 tyX11_ok nmX11 eX11 (by decide) fX11_54 rfl rfl rfl rfl (fun _ _ => rfl) (fun _ _ => rfl) (Nat.le_of_ble_eq_true rfl) (fun _ q => q.ob) (fun _ q => q.put) ?_
  refine aw_at fun gA hA => ?_
  refine r_aload_n (pc := 88) dX11_init_88 rfl ?_
  refine r_iconst (pc := 89) (v := 4) dX11_init_89 (by decide) ?_
  refine r_newq (pc := 90) (n := o + 80) (N := 4) (P' := Bd (o + 80) 1 (.inr (.inl (4, fun _ => none))) (fun _ => True) gA) dX11_init_90 cX11_58 rfl (by omega) (Nat.le_of_ble_eq_true rfl) (Nat.le_of_ble_eq_true rfl) (fun g' e => by subst e; exact hA.1) (fun g' e => by subst e; exact ⟨by show g'.1 + 1 = _; rw [hA.1], fun j hj => if_neg (by rw [hA.1]; omega), if_pos hA.1.symm, trivial, fun _ _ _ _ _ => trivial⟩) ?_
  refine r_dup (pc := 93) dX11_init_93 rfl ?_
  refine r_iconst (pc := 94) (v := 0) dX11_init_94 (by decide) ?_
  refine r_new (pc := 95) (n := o + 80 + 1) (P' := BdN (o + 80) 1 (.inr (.inl (4, fun _ => none))) (fun _ => True) (.inr (.inr (5, [.null, .int 0]))) gA) tyX6 dX11_init_95 hX6 tyX6_ok eX6 cX11_58 aX6 zX6 dfX6 (Nat.le_of_ble_eq_true rfl) (Nat.le_of_ble_eq_true rfl) (fun _ q => q.1) (fun _ q => q.new) ?_
  refine r_dup (pc := 98) dX11_init_98 rfl ?_
  refine r_ini (pc := 99) (μ' := mX6_init) (P' := Bd (o + 80) 4 (.inr (.inl (4, fun _ => none))) (fun g => (fun _ => True) g ∧ SheetAt (o + 80 + 1) 0 [] g) gA) dX11_init_99 nX11_60 iX6_init rfl rfl kX6_init rfl rfl (rr (by decide) rfl) rfl ⟨(Nat.le_of_ble_eq_true rfl), (Nat.le_of_ble_eq_true rfl)⟩ (fun _ q => (ct_Sheet_init (c := o + 80 + 1) q.sz q.top).mono (fun v g2 x => ⟨x.1, q.call (w2 := 3) rfl x.2.1 x.2.2.1 x.2.2.2 (fun _ _ s1 s2 q => q.gr ⟨s1, fun j h1 h2 => s2 j (by omega) (by omega)⟩)⟩)) ?_
  refine r_aast (pc := 102) (j := 0) (P' := Bd (o + 80) 4 (.inr (.inl (4, va_up (fun _ => none) 0 (some (o + 80 + 1))))) (fun g => (fun _ => True) g ∧ SheetAt (o + 80 + 1) 0 [] g) gA) dX11_init_102 (fun _ q => q.ar) (fun _ q => q.cc.2.o) rfl (by decide) (fun _ q => q.put) ?_
  refine r_dup (pc := 103) dX11_init_103 rfl ?_
  refine r_iconst (pc := 104) (v := 1) dX11_init_104 (by decide) ?_
  refine r_new (pc := 105) (n := o + 80 + 4) (P' := BdN (o + 80) 4 (.inr (.inl (4, va_up (fun _ => none) 0 (some (o + 80 + 1))))) (fun g => (fun _ => True) g ∧ SheetAt (o + 80 + 1) 0 [] g) (.inr (.inr (5, [.null, .int 0]))) gA) tyX6 dX11_init_105 hX6 tyX6_ok eX6 cX11_58 aX6 zX6 dfX6 (Nat.le_of_ble_eq_true rfl) (Nat.le_of_ble_eq_true rfl) (fun _ q => q.1) (fun _ q => q.new) ?_
  refine r_dup (pc := 108) dX11_init_108 rfl ?_
  refine r_ini (pc := 109) (μ' := mX6_init) (P' := Bd (o + 80) 7 (.inr (.inl (4, va_up (fun _ => none) 0 (some (o + 80 + 1))))) (fun g => (fun g => (fun _ => True) g ∧ SheetAt (o + 80 + 1) 0 [] g) g ∧ SheetAt (o + 80 + 4) 0 [] g) gA) dX11_init_109 nX11_60 iX6_init rfl rfl kX6_init rfl rfl (rr (by decide) rfl) rfl ⟨(Nat.le_of_ble_eq_true rfl), (Nat.le_of_ble_eq_true rfl)⟩ (fun _ q => (ct_Sheet_init (c := o + 80 + 4) q.sz q.top).mono (fun v g2 x => ⟨x.1, q.call (w2 := 3) rfl x.2.1 x.2.2.1 x.2.2.2 (fun _ _ s1 s2 q => q.gr ⟨s1, fun j h1 h2 => s2 j (by omega) (by omega)⟩)⟩)) ?_
  refine r_aast (pc := 112) (j := 1) (P' := Bd (o + 80) 7 (.inr (.inl (4, va_up (va_up (fun _ => none) 0 (some (o + 80 + 1))) 1 (some (o + 80 + 4))))) (fun g => (fun g => (fun _ => True) g ∧ SheetAt (o + 80 + 1) 0 [] g) g ∧ SheetAt (o + 80 + 4) 0 [] g) gA) dX11_init_112 (fun _ q => q.ar) (fun _ q => q.cc.2.o) rfl (by decide) (fun _ q => q.put) ?_
  refine r_dup (pc := 113) dX11_init_113 rfl ?_
  refine r_iconst (pc := 114) (v := 2) dX11_init_114 (by decide) ?_
  refine r_new (pc := 115) (n := o + 80 + 7) (P' := BdN (o + 80) 7 (.inr (.inl (4, va_up (va_up (fun _ => none) 0 (some (o + 80 + 1))) 1 (some (o + 80 + 4))))) (fun g => (fun g => (fun _ => True) g ∧ SheetAt (o + 80 + 1) 0 [] g) g ∧ SheetAt (o + 80 + 4) 0 [] g) (.inr (.inr (5, [.null, .int 0]))) gA) tyX6 dX11_init_115 hX6 tyX6_ok eX6 cX11_58 aX6 zX6 dfX6 (Nat.le_of_ble_eq_true rfl) (Nat.le_of_ble_eq_true rfl) (fun _ q => q.1) (fun _ q => q.new) ?_
  refine r_dup (pc := 118) dX11_init_118 rfl ?_
  refine r_ini (pc := 119) (μ' := mX6_init) (P' := Bd (o + 80) 10 (.inr (.inl (4, va_up (va_up (fun _ => none) 0 (some (o + 80 + 1))) 1 (some (o + 80 + 4))))) (fun g => (fun g => (fun g => (fun _ => True) g ∧ SheetAt (o + 80 + 1) 0 [] g) g ∧ SheetAt (o + 80 + 4) 0 [] g) g ∧ SheetAt (o + 80 + 7) 0 [] g) gA) dX11_init_119 nX11_60 iX6_init rfl rfl kX6_init rfl rfl (rr (by decide) rfl) rfl ⟨(Nat.le_of_ble_eq_true rfl), (Nat.le_of_ble_eq_true rfl)⟩ (fun _ q => (ct_Sheet_init (c := o + 80 + 7) q.sz q.top).mono (fun v g2 x => ⟨x.1, q.call (w2 := 3) rfl x.2.1 x.2.2.1 x.2.2.2 (fun _ _ s1 s2 q => q.gr ⟨s1, fun j h1 h2 => s2 j (by omega) (by omega)⟩)⟩)) ?_
  refine r_aast (pc := 122) (j := 2) (P' := Bd (o + 80) 10 (.inr (.inl (4, va_up (va_up (va_up (fun _ => none) 0 (some (o + 80 + 1))) 1 (some (o + 80 + 4))) 2 (some (o + 80 + 7))))) (fun g => (fun g => (fun g => (fun _ => True) g ∧ SheetAt (o + 80 + 1) 0 [] g) g ∧ SheetAt (o + 80 + 4) 0 [] g) g ∧ SheetAt (o + 80 + 7) 0 [] g) gA) dX11_init_122 (fun _ q => q.ar) (fun _ q => q.cc.2.o) rfl (by decide) (fun _ q => q.put) ?_
  refine r_dup (pc := 123) dX11_init_123 rfl ?_
  refine r_iconst (pc := 124) (v := 3) dX11_init_124 (by decide) ?_
  refine r_new (pc := 125) (n := o + 80 + 10) (P' := BdN (o + 80) 10 (.inr (.inl (4, va_up (va_up (va_up (fun _ => none) 0 (some (o + 80 + 1))) 1 (some (o + 80 + 4))) 2 (some (o + 80 + 7))))) (fun g => (fun g => (fun g => (fun _ => True) g ∧ SheetAt (o + 80 + 1) 0 [] g) g ∧ SheetAt (o + 80 + 4) 0 [] g) g ∧ SheetAt (o + 80 + 7) 0 [] g) (.inr (.inr (5, [.null, .int 0]))) gA) tyX6 dX11_init_125 hX6 tyX6_ok eX6 cX11_58 aX6 zX6 dfX6 (Nat.le_of_ble_eq_true rfl) (Nat.le_of_ble_eq_true rfl) (fun _ q => q.1) (fun _ q => q.new) ?_
  refine r_dup (pc := 128) dX11_init_128 rfl ?_
  refine r_ini (pc := 129) (μ' := mX6_init) (P' := Bd (o + 80) 13 (.inr (.inl (4, va_up (va_up (va_up (fun _ => none) 0 (some (o + 80 + 1))) 1 (some (o + 80 + 4))) 2 (some (o + 80 + 7))))) (fun g => (fun g => (fun g => (fun g => (fun _ => True) g ∧ SheetAt (o + 80 + 1) 0 [] g) g ∧ SheetAt (o + 80 + 4) 0 [] g) g ∧ SheetAt (o + 80 + 7) 0 [] g) g ∧ SheetAt (o + 80 + 10) 0 [] g) gA) dX11_init_129 nX11_60 iX6_init rfl rfl kX6_init rfl rfl (rr (by decide) rfl) rfl ⟨(Nat.le_of_ble_eq_true rfl), (Nat.le_of_ble_eq_true rfl)⟩ (fun _ q => (ct_Sheet_init (c := o + 80 + 10) q.sz q.top).mono (fun v g2 x => ⟨x.1, q.call (w2 := 3) rfl x.2.1 x.2.2.1 x.2.2.2 (fun _ _ s1 s2 q => q.gr ⟨s1, fun j h1 h2 => s2 j (by omega) (by omega)⟩)⟩)) ?_
  refine r_aast (pc := 132) (j := 3) (P' := Bd (o + 80) 13 (.inr (.inl (4, va_up (va_up (va_up (va_up (fun _ => none) 0 (some (o + 80 + 1))) 1 (some (o + 80 + 4))) 2 (some (o + 80 + 7))) 3 (some (o + 80 + 10))))) (fun g => (fun g => (fun g => (fun g => (fun _ => True) g ∧ SheetAt (o + 80 + 1) 0 [] g) g ∧ SheetAt (o + 80 + 4) 0 [] g) g ∧ SheetAt (o + 80 + 7) 0 [] g) g ∧ SheetAt (o + 80 + 10) 0 [] g) gA) dX11_init_132 (fun _ q => q.ar) (fun _ q => q.cc.2.o) rfl (by decide) (fun _ q => q.put) ?_
  refine aw_P (P' := Bd o 93 (.inr (.inr (10, [.ref (o + 1), .ref (o + 26), .ref (o + 51), .ref (o + 54), .ref (o + 59), .ref (o + 77), .null, .null, .int 0]))) (fun g => (fun g => (fun g => (fun g => (fun g => (fun g => (fun g => (fun _ => True) g ∧ StK (o + 1) K0 [] [] [] [] [] 1 g) g ∧ StK (o + 26) K0 [] [] [] [] [] 1 g) g ∧ RdAny (o + 51) g) g ∧ EyeK (o + 54) (o + 12) [] [] (List.replicate 360 0) (List.replicate 3000 0) g) g ∧ ThAny (o + 59) ((o + 54)) g) g ∧ VoX (o + 77) [] g) g ∧ g.2 (o + 80) = .inr (.inl (4, va_up (va_up (va_up (va_up (fun _ => none) 0 (some (o + 80 + 1))) 1 (some (o + 80 + 4))) 2 (some (o + 80 + 7))) 3 (some (o + 80 + 10)))) ∧ (fun g => (fun g => (fun g => (fun g => (fun _ => True) g ∧ SheetAt (o + 80 + 1) 0 [] g) g ∧ SheetAt (o + 80 + 4) 0 [] g) g ∧ SheetAt (o + 80 + 7) 0 [] g) g ∧ SheetAt (o + 80 + 10) 0 [] g) g) g) (fun g' q => ⟨q.1, fun j hj => (q.2.1 j (by omega)).trans (hA.2.1 j hj), (q.2.1 o (by omega)).trans hA.2.2.1, ⟨hA.2.2.2.2 gA g' (by rw [hA.1, q.1]; omega) (fun j h1 h2 => q.2.1 j h2) hA.2.2.2.1, q.2.2.1, q.2.2.2.1⟩, fun h k a b z => ⟨hA.2.2.2.2 h k a (fun j h1 h2 => b j h1 (by omega)) z.1, (b (o + 80) (by omega) (by omega)).trans z.2.1, q.2.2.2.2 h k a (fun j h1 h2 => b j (by omega) (by omega)) z.2.2⟩⟩) ?_
  refine r_putF (pc := 133) (k := 6) (P' := Bd o 93 (.inr (.inr (10, [.ref (o + 1), .ref (o + 26), .ref (o + 51), .ref (o + 54), .ref (o + 59), .ref (o + 77), .ref (o + 80), .null, .int 0]))) (fun g => (fun g => (fun g => (fun g => (fun g => (fun g => (fun g => (fun _ => True) g ∧ StK (o + 1) K0 [] [] [] [] [] 1 g) g ∧ StK (o + 26) K0 [] [] [] [] [] 1 g) g ∧ RdAny (o + 51) g) g ∧ EyeK (o + 54) (o + 12) [] [] (List.replicate 360 0) (List.replicate 3000 0) g) g ∧ ThAny (o + 59) ((o + 54)) g) g ∧ VoX (o + 77) [] g) g ∧ g.2 (o + 80) = .inr (.inl (4, va_up (va_up (va_up (va_up (fun _ => none) 0 (some (o + 80 + 1))) 1 (some (o + 80 + 4))) 2 (some (o + 80 + 7))) 3 (some (o + 80 + 10)))) ∧ (fun g => (fun g => (fun g => (fun g => (fun _ => True) g ∧ SheetAt (o + 80 + 1) 0 [] g) g ∧ SheetAt (o + 80 + 4) 0 [] g) g ∧ SheetAt (o + 80 + 7) 0 [] g) g ∧ SheetAt (o + 80 + 10) 0 [] g) g) g) tyX11 dX11_init_133 hX11 tyX11_ok nmX11 eX11 (by decide) fX11_61 rfl rfl rfl rfl (fun _ _ => rfl) (fun _ _ => rfl) (Nat.le_of_ble_eq_true rfl) (fun _ q => q.ob) (fun _ q => q.put) ?_
  refine r_aload_n (pc := 136) dX11_init_136 rfl ?_
  refine r_new (pc := 137) (n := o + 93) (P' := BdN o 93 (.inr (.inr (10, [.ref (o + 1), .ref (o + 26), .ref (o + 51), .ref (o + 54), .ref (o + 59), .ref (o + 77), .ref (o + 80), .null, .int 0]))) (fun g => (fun g => (fun g => (fun g => (fun g => (fun g => (fun g => (fun _ => True) g ∧ StK (o + 1) K0 [] [] [] [] [] 1 g) g ∧ StK (o + 26) K0 [] [] [] [] [] 1 g) g ∧ RdAny (o + 51) g) g ∧ EyeK (o + 54) (o + 12) [] [] (List.replicate 360 0) (List.replicate 3000 0) g) g ∧ ThAny (o + 59) ((o + 54)) g) g ∧ VoX (o + 77) [] g) g ∧ g.2 (o + 80) = .inr (.inl (4, va_up (va_up (va_up (va_up (fun _ => none) 0 (some (o + 80 + 1))) 1 (some (o + 80 + 4))) 2 (some (o + 80 + 7))) 3 (some (o + 80 + 10)))) ∧ (fun g => (fun g => (fun g => (fun g => (fun _ => True) g ∧ SheetAt (o + 80 + 1) 0 [] g) g ∧ SheetAt (o + 80 + 4) 0 [] g) g ∧ SheetAt (o + 80 + 7) 0 [] g) g ∧ SheetAt (o + 80 + 10) 0 [] g) g) (.inr (.inr (4, [.null, .int 0]))) g) tyX5 dX11_init_137 hX5 tyX5_ok eX5 cX11_65 aX5 zX5 dfX5 (Nat.le_of_ble_eq_true rfl) (Nat.le_of_ble_eq_true rfl) (fun _ q => q.1) (fun _ q => q.new) ?_
  refine r_dup (pc := 140) dX11_init_140 rfl ?_
  refine r_bipush (pc := 141) (v := 6) dX11_init_141 (by decide) ?_
  rw [show Value.int 6 = .int (nI 6) from rfl]
  refine r_ini (pc := 143) (μ' := mX5_init) (P' := Bd o 95 (.inr (.inr (10, [.ref (o + 1), .ref (o + 26), .ref (o + 51), .ref (o + 54), .ref (o + 59), .ref (o + 77), .ref (o + 80), .null, .int 0]))) (fun g => (fun g => (fun g => (fun g => (fun g => (fun g => (fun g => (fun g => (fun _ => True) g ∧ StK (o + 1) K0 [] [] [] [] [] 1 g) g ∧ StK (o + 26) K0 [] [] [] [] [] 1 g) g ∧ RdAny (o + 51) g) g ∧ EyeK (o + 54) (o + 12) [] [] (List.replicate 360 0) (List.replicate 3000 0) g) g ∧ ThAny (o + 59) ((o + 54)) g) g ∧ VoX (o + 77) [] g) g ∧ g.2 (o + 80) = .inr (.inl (4, va_up (va_up (va_up (va_up (fun _ => none) 0 (some (o + 80 + 1))) 1 (some (o + 80 + 4))) 2 (some (o + 80 + 7))) 3 (some (o + 80 + 10)))) ∧ (fun g => (fun g => (fun g => (fun g => (fun _ => True) g ∧ SheetAt (o + 80 + 1) 0 [] g) g ∧ SheetAt (o + 80 + 4) 0 [] g) g ∧ SheetAt (o + 80 + 7) 0 [] g) g ∧ SheetAt (o + 80 + 10) 0 [] g) g) g ∧ RowAt (o + 93) 6 [] g) g) dX11_init_143 nX11_67 iX5_init rfl rfl kX5_init rfl rfl (rr (by decide) rfl) rfl ⟨(Nat.le_of_ble_eq_true rfl), (Nat.le_of_ble_eq_true rfl)⟩ (fun _ q => (ct_Row_init2 (r := o + 93) (cap := 6) (by decide) q.sz q.top).mono (fun v g2 x => ⟨x.1, q.call (w2 := 2) rfl x.2.1 x.2.2.1 x.2.2.2 (fun _ _ s1 s2 q => q.gr ⟨s1, fun j h1 h2 => s2 j (by omega) (by omega)⟩)⟩)) ?_
  refine r_putF (pc := 146) (k := 7) (P' := Bd o 95 (.inr (.inr (10, [.ref (o + 1), .ref (o + 26), .ref (o + 51), .ref (o + 54), .ref (o + 59), .ref (o + 77), .ref (o + 80), .ref (o + 93), .int 0]))) (fun g => (fun g => (fun g => (fun g => (fun g => (fun g => (fun g => (fun g => (fun _ => True) g ∧ StK (o + 1) K0 [] [] [] [] [] 1 g) g ∧ StK (o + 26) K0 [] [] [] [] [] 1 g) g ∧ RdAny (o + 51) g) g ∧ EyeK (o + 54) (o + 12) [] [] (List.replicate 360 0) (List.replicate 3000 0) g) g ∧ ThAny (o + 59) ((o + 54)) g) g ∧ VoX (o + 77) [] g) g ∧ g.2 (o + 80) = .inr (.inl (4, va_up (va_up (va_up (va_up (fun _ => none) 0 (some (o + 80 + 1))) 1 (some (o + 80 + 4))) 2 (some (o + 80 + 7))) 3 (some (o + 80 + 10)))) ∧ (fun g => (fun g => (fun g => (fun g => (fun _ => True) g ∧ SheetAt (o + 80 + 1) 0 [] g) g ∧ SheetAt (o + 80 + 4) 0 [] g) g ∧ SheetAt (o + 80 + 7) 0 [] g) g ∧ SheetAt (o + 80 + 10) 0 [] g) g) g ∧ RowAt (o + 93) 6 [] g) g) tyX11 dX11_init_146 hX11 tyX11_ok nmX11 eX11 (by decide) fX11_70 rfl rfl rfl rfl (fun _ _ => rfl) (fun _ _ => rfl) (Nat.le_of_ble_eq_true rfl) (fun _ q => q.ob) (fun _ q => q.put) ?_
  refine r_aload_n (pc := 149) dX11_init_149 rfl ?_
  refine r_iconst (pc := 150) (v := 0) dX11_init_150 (by decide) ?_
  refine r_putf (pc := 151) (k := 8) (P' := Bd o 95 (.inr (.inr (10, [.ref (o + 1), .ref (o + 26), .ref (o + 51), .ref (o + 54), .ref (o + 59), .ref (o + 77), .ref (o + 80), .ref (o + 93), .int 0]))) (fun g => (fun g => (fun g => (fun g => (fun g => (fun g => (fun g => (fun g => (fun _ => True) g ∧ StK (o + 1) K0 [] [] [] [] [] 1 g) g ∧ StK (o + 26) K0 [] [] [] [] [] 1 g) g ∧ RdAny (o + 51) g) g ∧ EyeK (o + 54) (o + 12) [] [] (List.replicate 360 0) (List.replicate 3000 0) g) g ∧ ThAny (o + 59) ((o + 54)) g) g ∧ VoX (o + 77) [] g) g ∧ g.2 (o + 80) = .inr (.inl (4, va_up (va_up (va_up (va_up (fun _ => none) 0 (some (o + 80 + 1))) 1 (some (o + 80 + 4))) 2 (some (o + 80 + 7))) 3 (some (o + 80 + 10)))) ∧ (fun g => (fun g => (fun g => (fun g => (fun _ => True) g ∧ SheetAt (o + 80 + 1) 0 [] g) g ∧ SheetAt (o + 80 + 4) 0 [] g) g ∧ SheetAt (o + 80 + 7) 0 [] g) g ∧ SheetAt (o + 80 + 10) 0 [] g) g) g ∧ RowAt (o + 93) 6 [] g) g) tyX11 dX11_init_151 hX11 tyX11_ok nmX11 eX11 (by decide) fX11_74 rfl rfl (fun _ _ => rfl) (fun _ _ => rfl) (Nat.le_of_ble_eq_true rfl) (fun _ q => q.ob) (fun _ q => q.put) ?_
  refine aw_P (P' := fun g' => GA o K0 [] [] [] [] [] 1 (K0, [], [], [], [], [], 1) (fun _ => 0) (fun _ => []) [] [] 0 g' ∧ g'.1 = o + 95 ∧ ∀ j, j < o → g'.2 j = g.2 j) (fun g' q => by
    obtain ⟨⟨⟨⟨⟨⟨⟨⟨-, c1⟩, c2⟩, c3⟩, c4⟩, c5⟩, c6⟩, c7, ⟨⟨⟨⟨-, s0⟩, s1⟩, s2⟩, s3⟩⟩, c9⟩ := q.cc
    refine ⟨⟨q.ob, ⟨by rw [q.1]; omega, _, c7, fun i hi => ?_⟩, c1, c2, c3, ⟨⟨_, _, c4, MD_0 _, ML_0 _⟩, Or.inl rfl, Or.inl rfl⟩, c5, c6, fun i hi => ?_, c9⟩, q.1, q.2.1⟩
    · match i, hi with
      | 0, _ => rfl
      | 1, _ => rfl
      | 2, _ => rfl
      | 3, _ => rfl
      | k + 4, h => exact absurd h (by omega)
    · match i, hi with
      | 0, _ => exact s0
      | 1, _ => exact s1
      | 2, _ => exact s2
      | 3, _ => exact s3
      | k + 4, h => exact absurd h (by omega)) ?_
  have c1 : clampI 6 6 = 6 := by decide
  refine r_aload_n (pc := 154) dX11_init_154 rfl ?_
  refine r_getf (pc := 155) (k := 7) dX11_init_155 hX11 eX11 (by decide) fX11_70 (fun _ q => q.1.oo) rfl ?_
  refine r_bipush (pc := 158) (v := 6) dX11_init_158 (by decide) ?_
  refine r_iconst (pc := 160) (v := 0) dX11_init_160 (by decide) ?_
  refine r_Vv (pc := 161) (μ' := mX5_fill) dX11_init_161 nX11_78 iX5_fill vX5_fill kX5_fill rfl rfl (rr (by decide) rfl) rfl ⟨(Nat.le_of_ble_eq_true rfl), (Nat.le_of_ble_eq_true rfl)⟩ (fun g' q => ct_Row_fill (P' := fun g2 => GA o K0 [] [] [] [] [] 1 (K0, [], [], [], [], [], 1) (fun _ => 0) (fun _ => []) [] (List.replicate 6 0) 0 g2 ∧ g2.1 = o + 95 ∧ ∀ j, j < o → g2.2 j = g.2 j) q.1.Er (fun g2 x y => ⟨q.1.setEr (by rw [c1] at x; exact x) y, by rw [y.1]; exact q.2.1, fun j hj => by rw [y.2 j (by omega)]; exact q.2.2 j hj⟩)) ?_
  refine r_return (pc := 164) dX11_init_164 rfl ⟨(Nat.le_of_ble_eq_true rfl), (Nat.le_of_ble_eq_true rfl)⟩ (fun gE hg => ?_)
  exact ⟨rfl, hg⟩
