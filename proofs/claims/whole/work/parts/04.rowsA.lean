section RowsA
variable {XS : XT → Prop} {R : Room} {μ : MI} {kc ks pc : Nat} {ls : List (Option Value)} {st : List Value} {P : AH → Prop} {Q : Option Value → AH → Prop}
theorem aw_P {P' : AH → Prop} (hp : ∀ h, P h → P' h) (kk : AW XS R μ kc ks pc ls st P' Q) : AW XS R μ kc ks pc ls st P Q := by
  intro p l e s m args below meth c D b base X Z hX hc hz h H locs lsA hP
  exact kk p l e s m args below meth c D b base X Z hX hc hz h H locs lsA (hp h hP)
theorem aw_at (kk : ∀ h, P h → AW XS R μ kc ks pc ls st (fun g => g = h) Q) : AW XS R μ kc ks pc ls st P Q := by
  intro p l e s m args below meth c D b base X Z hX hc hz h H locs lsA hP
  exact kk h hP p l e s m args below meth c D b base X Z hX hc hz h H locs lsA rfl
theorem aw_ex {α : Type} {F : α → AH → Prop} (kk : ∀ x, AW XS R μ kc ks pc ls st (F x) Q) : AW XS R μ kc ks pc ls st (fun h => ∃ x, F x h) Q := by
  intro p l e s m args below meth c D b base X Z hX hc hz h H locs lsA hP
  obtain ⟨x, hx⟩ := hP
  exact kk x p l e s m args below meth c D b base X Z hX hc hz h H locs lsA hx
theorem aw_pr {G : Prop} (kk : G → AW XS R μ kc ks pc ls st P Q) : AW XS R μ kc ks pc ls st (fun h => G ∧ P h) Q := by
  intro p l e s m args below meth c D b base X Z hX hc hz h H locs lsA hP
  exact kk hP.1 p l e s m args below meth c D b base X Z hX hc hz h H locs lsA hP.2
theorem aw_pc {pc' : Nat} (e0 : pc = pc') (kk : AW XS R μ kc ks pc' ls st P Q) : AW XS R μ kc ks pc ls st P Q := e0 ▸ kk
theorem aw_lk {ls' : List (Option Value)} (h0 : ∀ i v, lget ls' i = some v → lget ls i = some v) (kk : AW XS R μ kc ks pc ls' st P Q) : AW XS R μ kc ks pc ls st P Q := by
  intro p l e s m args below meth c D b base X Z hX hc hz h H locs lsA hP hH hS hL
  refine kk p l e s m args below meth c D b base X Z hX hc hz h H locs lsA hP hH hS ⟨hL.1, hL.2.1, fun q hq => ?_⟩
  obtain ⟨j, v, rfl, hj⟩ := lvl_mem.mp hq
  exact hL.2.2 _ (lvl_mem.mpr ⟨j, v, rfl, h0 j v hj⟩)
theorem r_iconst {n : Int} {v : Int32} (hf : decode μ.2.1 pc = .ok (.iconst n, 1)) (hv : Int32.ofInt n = v) (kk : AW XS R μ kc ks (pc + 1) ls (.int v :: st) P Q) : AW XS R μ kc ks pc ls st P Q := by
  intro p l e s m args below meth c D b base X Z hX hc hz h H locs lsA hP hH hS hL
  exact lv_iconst hc.1 hc.2.1 hf hv (kk p l e s m args below meth c D b base X Z hX hc hz h H locs lsA hP hH hS hL)
theorem r_bipush {n : Int} {v : Int32} (hf : decode μ.2.1 pc = .ok (.bipush n, 2)) (hv : (Int8.ofInt n).toInt32 = v) (kk : AW XS R μ kc ks (pc + 2) ls (.int v :: st) P Q) : AW XS R μ kc ks pc ls st P Q := by
  intro p l e s m args below meth c D b base X Z hX hc hz h H locs lsA hP hH hS hL
  exact lv_bipush hc.1 hc.2.1 hf hv (kk p l e s m args below meth c D b base X Z hX hc hz h H locs lsA hP hH hS hL)
theorem r_sipush {n : Int} {v : Int32} (hf : decode μ.2.1 pc = .ok (.sipush n, 3)) (hv : (Int16.ofInt n).toInt32 = v) (kk : AW XS R μ kc ks (pc + 3) ls (.int v :: st) P Q) : AW XS R μ kc ks pc ls st P Q := by
  intro p l e s m args below meth c D b base X Z hX hc hz h H locs lsA hP hH hS hL
  exact lv_sipush hc.1 hc.2.1 hf hv (kk p l e s m args below meth c D b base X Z hX hc hz h H locs lsA hP hH hS hL)
theorem r_ldc {i : Nat} {v : Int32} (hf : decode μ.2.1 pc = .ok (.ldc i, 2)) (hw : Cond.constant μ.1.cls i v ∈ lw_g) (kk : AW XS R μ kc ks (pc + 2) ls (.int v :: st) P Q) : AW XS R μ kc ks pc ls st P Q := by
  intro p l e s m args below meth c D b base X Z hX hc hz h H locs lsA hP hH hS hL
  exact lv_ldc hc.1 hc.2.1 hc.2.2.2.2.1 (hc.2.2.2.2.2.2.2.1 _ hw) hf (kk p l e s m args below meth c D b base X Z hX hc hz h H locs lsA hP hH hS hL)
theorem r_ldcw {i : Nat} {v : Int32} (hf : decode μ.2.1 pc = .ok (.ldc_w i, 3)) (hw : Cond.constant μ.1.cls i v ∈ lw_g) (kk : AW XS R μ kc ks (pc + 3) ls (.int v :: st) P Q) : AW XS R μ kc ks pc ls st P Q := by
  intro p l e s m args below meth c D b base X Z hX hc hz h H locs lsA hP hH hS hL
  exact lv_ldcw hc.1 hc.2.1 hc.2.2.2.2.1 (hc.2.2.2.2.2.2.2.1 _ hw) hf (kk p l e s m args below meth c D b base X Z hX hc hz h H locs lsA hP hH hS hL)
theorem r_ldc2 {i : Nat} {v : Int64} (hf : decode μ.2.1 pc = .ok (.ldc2_w i, 3)) (hw : Cond.constantLong μ.1.cls i v ∈ lw_g) (kk : AW XS R μ kc ks (pc + 3) ls (.long v :: st) P Q) : AW XS R μ kc ks pc ls st P Q := by
  intro p l e s m args below meth c D b base X Z hX hc hz h H locs lsA hP hH hS hL
  exact lv_ldc2 hc.1 hc.2.1 hc.2.2.2.2.1 (hc.2.2.2.2.2.2.2.1 _ hw) hf (kk p l e s m args below meth c D b base X Z hX hc hz h H locs lsA hP hH hS hL)
theorem r_iload_n {k : Fin 4} {x : Int32} (hf : decode μ.2.1 pc = .ok (.iload_n k, 1)) (hl : lget ls k = some (.int x)) (kk : AW XS R μ kc ks (pc + 1) ls (.int x :: st) P Q) : AW XS R μ kc ks pc ls st P Q := by
  intro p l e s m args below meth c D b base X Z hX hc hz h H locs lsA hP hH hS hL
  exact lv_iload_n hc.1 hc.2.1 hf rfl (lget_ok hL hl) (kk p l e s m args below meth c D b base X Z hX hc hz h H locs lsA hP hH hS hL)
theorem r_iload {i : Nat} {x : Int32} (hf : decode μ.2.1 pc = .ok (.iload i, 2)) (hl : lget ls i = some (.int x)) (kk : AW XS R μ kc ks (pc + 2) ls (.int x :: st) P Q) : AW XS R μ kc ks pc ls st P Q := by
  intro p l e s m args below meth c D b base X Z hX hc hz h H locs lsA hP hH hS hL
  exact lv_iload hc.1 hc.2.1 hf (lget_ok hL hl) (kk p l e s m args below meth c D b base X Z hX hc hz h H locs lsA hP hH hS hL)
theorem r_lload_n {k : Fin 4} {x : Int64} (hf : decode μ.2.1 pc = .ok (.lload_n k, 1)) (hl : lget ls k = some (.long x)) (kk : AW XS R μ kc ks (pc + 1) ls (.long x :: st) P Q) : AW XS R μ kc ks pc ls st P Q := by
  intro p l e s m args below meth c D b base X Z hX hc hz h H locs lsA hP hH hS hL
  exact lv_lload_n hc.1 hc.2.1 hf rfl (lget_ok hL hl) (kk p l e s m args below meth c D b base X Z hX hc hz h H locs lsA hP hH hS hL)
theorem r_aload_n {k : Fin 4} {x : Nat} (hf : decode μ.2.1 pc = .ok (.aload_n k, 1)) (hl : lget ls k = some (.ref x)) (kk : AW XS R μ kc ks (pc + 1) ls (.ref x :: st) P Q) : AW XS R μ kc ks pc ls st P Q := by
  intro p l e s m args below meth c D b base X Z hX hc hz h H locs lsA hP hH hS hL
  exact lv_aload_n hc.1 hc.2.1 hf rfl (lget_ok hL hl) (kk p l e s m args below meth c D b base X Z hX hc hz h H locs lsA hP hH hS hL)
theorem r_aload {i : Nat} {x : Nat} (hf : decode μ.2.1 pc = .ok (.aload i, 2)) (hl : lget ls i = some (.ref x)) (kk : AW XS R μ kc ks (pc + 2) ls (.ref x :: st) P Q) : AW XS R μ kc ks pc ls st P Q := by
  intro p l e s m args below meth c D b base X Z hX hc hz h H locs lsA hP hH hS hL
  exact lv_aload hc.1 hc.2.1 hf (lget_ok hL hl) (kk p l e s m args below meth c D b base X Z hX hc hz h H locs lsA hP hH hS hL)
theorem r_aload_nN {k : Fin 4} (hf : decode μ.2.1 pc = .ok (.aload_n k, 1)) (hl : lget ls k = some .null) (kk : AW XS R μ kc ks (pc + 1) ls (.null :: st) P Q) : AW XS R μ kc ks pc ls st P Q := by
  intro p l e s m args below meth c D b base X Z hX hc hz h H locs lsA hP hH hS hL
  exact lv_aload_nN hc.1 hc.2.1 hf rfl (lget_ok hL hl) (kk p l e s m args below meth c D b base X Z hX hc hz h H locs lsA hP hH hS hL)
theorem r_aloadN {i : Nat} (hf : decode μ.2.1 pc = .ok (.aload i, 2)) (hl : lget ls i = some .null) (kk : AW XS R μ kc ks (pc + 2) ls (.null :: st) P Q) : AW XS R μ kc ks pc ls st P Q := by
  intro p l e s m args below meth c D b base X Z hX hc hz h H locs lsA hP hH hS hL
  exact lv_aloadN hc.1 hc.2.1 hf (lget_ok hL hl) (kk p l e s m args below meth c D b base X Z hX hc hz h H locs lsA hP hH hS hL)
theorem r_aload_nX {k : Fin 4} {z : UInt32} (hf : decode μ.2.1 pc = .ok (.aload_n k, 1)) (hl : lget ls k = some (.float z)) (kk : AW XS R μ kc ks (pc + 1) ls (.float z :: st) P Q) : AW XS R μ kc ks pc ls st P Q := by
  intro p l e s m args below meth c D b base X Z hX hc hz h H locs lsA hP hH hS hL
  exact lv_aload_n hc.1 hc.2.1 hf rfl (lget_ok hL hl) (kk p l e s m args below meth c D b base X Z hX hc hz h H locs lsA hP hH hS hL)
theorem r_istore_n {k : Fin 4} {i : Nat} {x : Int32} (hf : decode μ.2.1 pc = .ok (.istore_n k, 1)) (hi : (k : Nat) = i) (hn : i < μ.2.2.1) (hk : lok ls i = true) (kk : AW XS R μ kc ks (pc + 1) (lset ls i (.int x)) st P Q) : AW XS R μ kc ks pc ls ((.int x) :: st) P Q := by
  intro p l e s m args below meth c D b base X Z hX hc hz h H locs lsA hP hH hS hL
  exact lv_istore_n hc.1 hc.2.1 hf hi hL hn rfl (fun ls' hl' => kk p l e s m args below meth c D b base X Z hX hc hz h H locs ls' hP hH hS (lset_ok (cv_cat b base) hk hl'))
theorem r_istore {i : Nat} {x : Int32} (hf : decode μ.2.1 pc = .ok (.istore i, 2)) (hn : i < μ.2.2.1) (hk : lok ls i = true) (kk : AW XS R μ kc ks (pc + 2) (lset ls i (.int x)) st P Q) : AW XS R μ kc ks pc ls ((.int x) :: st) P Q := by
  intro p l e s m args below meth c D b base X Z hX hc hz h H locs lsA hP hH hS hL
  exact lv_istore hc.1 hc.2.1 hf hL hn rfl (fun ls' hl' => kk p l e s m args below meth c D b base X Z hX hc hz h H locs ls' hP hH hS (lset_ok (cv_cat b base) hk hl'))
theorem r_astore_n {k : Fin 4} {i : Nat} {x : Nat} (hf : decode μ.2.1 pc = .ok (.astore_n k, 1)) (hi : (k : Nat) = i) (hn : i < μ.2.2.1) (hk : lok ls i = true) (kk : AW XS R μ kc ks (pc + 1) (lset ls i (.ref x)) st P Q) : AW XS R μ kc ks pc ls ((.ref x) :: st) P Q := by
  intro p l e s m args below meth c D b base X Z hX hc hz h H locs lsA hP hH hS hL
  exact lv_astore_n hc.1 hc.2.1 hf hi hL hn rfl (fun ls' hl' => kk p l e s m args below meth c D b base X Z hX hc hz h H locs ls' hP hH hS (lset_ok (cv_cat b base) hk hl'))
theorem r_astore {i : Nat} {x : Nat} (hf : decode μ.2.1 pc = .ok (.astore i, 2)) (hn : i < μ.2.2.1) (hk : lok ls i = true) (kk : AW XS R μ kc ks (pc + 2) (lset ls i (.ref x)) st P Q) : AW XS R μ kc ks pc ls ((.ref x) :: st) P Q := by
  intro p l e s m args below meth c D b base X Z hX hc hz h H locs lsA hP hH hS hL
  exact lv_astore hc.1 hc.2.1 hf hL hn rfl (fun ls' hl' => kk p l e s m args below meth c D b base X Z hX hc hz h H locs ls' hP hH hS (lset_ok (cv_cat b base) hk hl'))
theorem r_astore_nN {k : Fin 4} {i : Nat}  (hf : decode μ.2.1 pc = .ok (.astore_n k, 1)) (hi : (k : Nat) = i) (hn : i < μ.2.2.1) (hk : lok ls i = true) (kk : AW XS R μ kc ks (pc + 1) (lset ls i .null) st P Q) : AW XS R μ kc ks pc ls (.null :: st) P Q := by
  intro p l e s m args below meth c D b base X Z hX hc hz h H locs lsA hP hH hS hL
  exact lv_astore_nN hc.1 hc.2.1 hf hi hL hn rfl (fun ls' hl' => kk p l e s m args below meth c D b base X Z hX hc hz h H locs ls' hP hH hS (lset_ok (cv_cat b base) hk hl'))
theorem r_astoreN {i : Nat}  (hf : decode μ.2.1 pc = .ok (.astore i, 2)) (hn : i < μ.2.2.1) (hk : lok ls i = true) (kk : AW XS R μ kc ks (pc + 2) (lset ls i .null) st P Q) : AW XS R μ kc ks pc ls (.null :: st) P Q := by
  intro p l e s m args below meth c D b base X Z hX hc hz h H locs lsA hP hH hS hL
  exact lv_astoreN hc.1 hc.2.1 hf hL hn rfl (fun ls' hl' => kk p l e s m args below meth c D b base X Z hX hc hz h H locs ls' hP hH hS (lset_ok (cv_cat b base) hk hl'))
theorem rk_at {f : Value → Value} {ls : List (Option Value)} {i : Nat} {v : Value} (h : lget ls i = some v) : ∃ k : Nat, (lvl f 0 ls)[k]? = some (i, f v) := by
  obtain ⟨k, hk⟩ := List.getElem?_of_mem (lvl_mem.mpr ⟨i, v, by rw [Nat.zero_add], h⟩ : (i, f v) ∈ lvl f 0 ls)
  exact ⟨k, hk⟩
theorem r_iinc {i : Nat} {n : Int} {x v : Int32} (hf : decode μ.2.1 pc = .ok (.iinc i n, 3)) (hl : lget ls i = some (.int x)) (hv : x + Int32.ofInt n = v) (hn : i < μ.2.2.1) (hk : lok ls i = true) (kk : AW XS R μ kc ks (pc + 3) (lset ls i (.int v)) st P Q) : AW XS R μ kc ks pc ls st P Q := by
  intro p l e s m args below meth c D b base X Z hX hc hz h H locs lsA hP hH hS hL
  obtain ⟨k, hk2⟩ := rk_at (f := cv b base) hl
  exact lv_iinc hc.1 hc.2.1 hf hL hk2 hv hn rfl (fun ls' hl' => kk p l e s m args below meth c D b base X Z hX hc hz h H locs ls' hP hH hS (lset_ok (v := .int v) (cv_cat b base) hk hl'))
theorem r_iadd {x y : Int32} (hf : decode μ.2.1 pc = .ok (.iadd, 1)) (kk : AW XS R μ kc ks (pc + 1) ls (.int (x + y) :: st) P Q) : AW XS R μ kc ks pc ls (.int y :: .int x :: st) P Q := by
  intro p l e s m args below meth c D b base X Z hX hc hz h H locs lsA hP hH hS hL
  exact lv_iadd hc.1 hc.2.1 hf (kk p l e s m args below meth c D b base X Z hX hc hz h H locs lsA hP hH hS hL)
theorem r_isub {x y : Int32} (hf : decode μ.2.1 pc = .ok (.isub, 1)) (kk : AW XS R μ kc ks (pc + 1) ls (.int (x - y) :: st) P Q) : AW XS R μ kc ks pc ls (.int y :: .int x :: st) P Q := by
  intro p l e s m args below meth c D b base X Z hX hc hz h H locs lsA hP hH hS hL
  exact lv_isub hc.1 hc.2.1 hf (kk p l e s m args below meth c D b base X Z hX hc hz h H locs lsA hP hH hS hL)
theorem r_imul {x y : Int32} (hf : decode μ.2.1 pc = .ok (.imul, 1)) (kk : AW XS R μ kc ks (pc + 1) ls (.int (x * y) :: st) P Q) : AW XS R μ kc ks pc ls (.int y :: .int x :: st) P Q := by
  intro p l e s m args below meth c D b base X Z hX hc hz h H locs lsA hP hH hS hL
  exact lv_imul hc.1 hc.2.1 hf (kk p l e s m args below meth c D b base X Z hX hc hz h H locs lsA hP hH hS hL)
theorem r_iand {x y : Int32} (hf : decode μ.2.1 pc = .ok (.iand, 1)) (kk : AW XS R μ kc ks (pc + 1) ls (.int (x &&& y) :: st) P Q) : AW XS R μ kc ks pc ls (.int y :: .int x :: st) P Q := by
  intro p l e s m args below meth c D b base X Z hX hc hz h H locs lsA hP hH hS hL
  exact lv_iand hc.1 hc.2.1 hf (kk p l e s m args below meth c D b base X Z hX hc hz h H locs lsA hP hH hS hL)
theorem r_ior {x y : Int32} (hf : decode μ.2.1 pc = .ok (.ior, 1)) (kk : AW XS R μ kc ks (pc + 1) ls (.int (x ||| y) :: st) P Q) : AW XS R μ kc ks pc ls (.int y :: .int x :: st) P Q := by
  intro p l e s m args below meth c D b base X Z hX hc hz h H locs lsA hP hH hS hL
  exact lv_ior hc.1 hc.2.1 hf (kk p l e s m args below meth c D b base X Z hX hc hz h H locs lsA hP hH hS hL)
theorem r_ixor {x y : Int32} (hf : decode μ.2.1 pc = .ok (.ixor, 1)) (kk : AW XS R μ kc ks (pc + 1) ls (.int (x ^^^ y) :: st) P Q) : AW XS R μ kc ks pc ls (.int y :: .int x :: st) P Q := by
  intro p l e s m args below meth c D b base X Z hX hc hz h H locs lsA hP hH hS hL
  exact lv_ixor hc.1 hc.2.1 hf (kk p l e s m args below meth c D b base X Z hX hc hz h H locs lsA hP hH hS hL)
theorem r_ishl {x y : Int32} (hf : decode μ.2.1 pc = .ok (.ishl, 1)) (kk : AW XS R μ kc ks (pc + 1) ls (.int (x <<< (y &&& 31)) :: st) P Q) : AW XS R μ kc ks pc ls (.int y :: .int x :: st) P Q := by
  intro p l e s m args below meth c D b base X Z hX hc hz h H locs lsA hP hH hS hL
  exact lv_ishl hc.1 hc.2.1 hf (kk p l e s m args below meth c D b base X Z hX hc hz h H locs lsA hP hH hS hL)
theorem r_ishr {x y : Int32} (hf : decode μ.2.1 pc = .ok (.ishr, 1)) (kk : AW XS R μ kc ks (pc + 1) ls (.int (x >>> (y &&& 31)) :: st) P Q) : AW XS R μ kc ks pc ls (.int y :: .int x :: st) P Q := by
  intro p l e s m args below meth c D b base X Z hX hc hz h H locs lsA hP hH hS hL
  exact lv_ishr hc.1 hc.2.1 hf (kk p l e s m args below meth c D b base X Z hX hc hz h H locs lsA hP hH hS hL)
theorem r_ineg {x : Int32} (hf : decode μ.2.1 pc = .ok (.ineg, 1)) (kk : AW XS R μ kc ks (pc + 1) ls (.int (-x) :: st) P Q) : AW XS R μ kc ks pc ls (.int x :: st) P Q := by
  intro p l e s m args below meth c D b base X Z hX hc hz h H locs lsA hP hH hS hL
  exact lv_ineg hc.1 hc.2.1 hf (kk p l e s m args below meth c D b base X Z hX hc hz h H locs lsA hP hH hS hL)
theorem r_idiv {x y : Int32} (hf : decode μ.2.1 pc = .ok (.idiv, 1)) (hne : ¬ y = 0) (kk : AW XS R μ kc ks (pc + 1) ls (.int (x / y) :: st) P Q) : AW XS R μ kc ks pc ls (.int y :: .int x :: st) P Q := by
  intro p l e s m args below meth c D b base X Z hX hc hz h H locs lsA hP hH hS hL
  exact lv_idiv hc.1 hc.2.1 hf hne (kk p l e s m args below meth c D b base X Z hX hc hz h H locs lsA hP hH hS hL)
theorem r_irem {x y v : Int32} (hf : decode μ.2.1 pc = .ok (.irem, 1)) (hne : ¬ y = 0) (hv : x - x / y * y = v) (kk : AW XS R μ kc ks (pc + 1) ls (.int v :: st) P Q) : AW XS R μ kc ks pc ls (.int y :: .int x :: st) P Q := by
  intro p l e s m args below meth c D b base X Z hX hc hz h H locs lsA hP hH hS hL
  subst hv
  exact lv_irem hc.1 hc.2.1 hf hne (kk p l e s m args below meth c D b base X Z hX hc hz h H locs lsA hP hH hS hL)
theorem r_iushr {x y v : Int32} (hf : decode μ.2.1 pc = .ok (.iushr, 1)) (hv : (x.toUInt32 >>> (y.toUInt32 &&& Int32.toUInt32 31)).toInt32 = v) (kk : AW XS R μ kc ks (pc + 1) ls (.int v :: st) P Q) : AW XS R μ kc ks pc ls (.int y :: .int x :: st) P Q := by
  intro p l e s m args below meth c D b base X Z hX hc hz h H locs lsA hP hH hS hL
  exact lv_iushr hc.1 hc.2.1 hf hv (kk p l e s m args below meth c D b base X Z hX hc hz h H locs lsA hP hH hS hL)
theorem r_i2l {x : Int32} (hf : decode μ.2.1 pc = .ok (.i2l, 1)) (kk : AW XS R μ kc ks (pc + 1) ls (.long x.toInt64 :: st) P Q) : AW XS R μ kc ks pc ls (.int x :: st) P Q := by
  intro p l e s m args below meth c D b base X Z hX hc hz h H locs lsA hP hH hS hL
  exact lv_i2l hc.1 hc.2.1 hf rfl (kk p l e s m args below meth c D b base X Z hX hc hz h H locs lsA hP hH hS hL)
theorem r_l2i {x : Int64} (hf : decode μ.2.1 pc = .ok (.l2i, 1)) (kk : AW XS R μ kc ks (pc + 1) ls (.int x.toInt32 :: st) P Q) : AW XS R μ kc ks pc ls (.long x :: st) P Q := by
  intro p l e s m args below meth c D b base X Z hX hc hz h H locs lsA hP hH hS hL
  exact lv_l2i hc.1 hc.2.1 hf rfl (kk p l e s m args below meth c D b base X Z hX hc hz h H locs lsA hP hH hS hL)
theorem r_i2b {x : Int32} (hf : decode μ.2.1 pc = .ok (.i2b, 1)) (kk : AW XS R μ kc ks (pc + 1) ls (.int x.toInt8.toInt32 :: st) P Q) : AW XS R μ kc ks pc ls (.int x :: st) P Q := by
  intro p l e s m args below meth c D b base X Z hX hc hz h H locs lsA hP hH hS hL
  exact lv_i2b hc.1 hc.2.1 hf rfl (kk p l e s m args below meth c D b base X Z hX hc hz h H locs lsA hP hH hS hL)
theorem r_i2s {x : Int32} (hf : decode μ.2.1 pc = .ok (.i2s, 1)) (kk : AW XS R μ kc ks (pc + 1) ls (.int x.toInt16.toInt32 :: st) P Q) : AW XS R μ kc ks pc ls (.int x :: st) P Q := by
  intro p l e s m args below meth c D b base X Z hX hc hz h H locs lsA hP hH hS hL
  exact lv_i2s hc.1 hc.2.1 hf rfl (kk p l e s m args below meth c D b base X Z hX hc hz h H locs lsA hP hH hS hL)
theorem r_land {x y : Int64} (hf : decode μ.2.1 pc = .ok (.land, 1)) (kk : AW XS R μ kc ks (pc + 1) ls (.long (x &&& y) :: st) P Q) : AW XS R μ kc ks pc ls (.long y :: .long x :: st) P Q := by
  intro p l e s m args below meth c D b base X Z hX hc hz h H locs lsA hP hH hS hL
  exact lv_land hc.1 hc.2.1 hf (kk p l e s m args below meth c D b base X Z hX hc hz h H locs lsA hP hH hS hL)
theorem r_lor {x y : Int64} (hf : decode μ.2.1 pc = .ok (.lor, 1)) (kk : AW XS R μ kc ks (pc + 1) ls (.long (x ||| y) :: st) P Q) : AW XS R μ kc ks pc ls (.long y :: .long x :: st) P Q := by
  intro p l e s m args below meth c D b base X Z hX hc hz h H locs lsA hP hH hS hL
  exact lv_lor hc.1 hc.2.1 hf (kk p l e s m args below meth c D b base X Z hX hc hz h H locs lsA hP hH hS hL)
theorem r_lshl {x : Int64} {y : Int32} (hf : decode μ.2.1 pc = .ok (.lshl, 1)) (kk : AW XS R μ kc ks (pc + 1) ls (.long (x <<< (y.toInt64 &&& 63)) :: st) P Q) : AW XS R μ kc ks pc ls (.int y :: .long x :: st) P Q := by
  intro p l e s m args below meth c D b base X Z hX hc hz h H locs lsA hP hH hS hL
  exact lv_lshl hc.1 hc.2.1 hf rfl (kk p l e s m args below meth c D b base X Z hX hc hz h H locs lsA hP hH hS hL)
theorem r_lshr {x : Int64} {y : Int32} (hf : decode μ.2.1 pc = .ok (.lshr, 1)) (kk : AW XS R μ kc ks (pc + 1) ls (.long (x >>> (y.toInt64 &&& 63)) :: st) P Q) : AW XS R μ kc ks pc ls (.int y :: .long x :: st) P Q := by
  intro p l e s m args below meth c D b base X Z hX hc hz h H locs lsA hP hH hS hL
  exact lv_lshr hc.1 hc.2.1 hf rfl (kk p l e s m args below meth c D b base X Z hX hc hz h H locs lsA hP hH hS hL)
theorem r_lushr {x : Int64} {y : Int32} (hf : decode μ.2.1 pc = .ok (.lushr, 1)) (kk : AW XS R μ kc ks (pc + 1) ls (.long ((x.toUInt64 >>> (y.toInt64.toUInt64 &&& Int64.toUInt64 63)).toInt64) :: st) P Q) : AW XS R μ kc ks pc ls (.int y :: .long x :: st) P Q := by
  intro p l e s m args below meth c D b base X Z hX hc hz h H locs lsA hP hH hS hL
  exact lv_lushr hc.1 hc.2.1 hf rfl (kk p l e s m args below meth c D b base X Z hX hc hz h H locs lsA hP hH hS hL)
theorem r_null (hf : decode μ.2.1 pc = .ok (.aconst_null, 1)) (kk : AW XS R μ kc ks (pc + 1) ls (.null :: st) P Q) : AW XS R μ kc ks pc ls st P Q := by
  intro p l e s m args below meth c D b base X Z hX hc hz h H locs lsA hP hH hS hL
  exact lv_null hc.1 hc.2.1 hf (kk p l e s m args below meth c D b base X Z hX hc hz h H locs lsA hP hH hS hL)
theorem r_dup {va : Value} (hf : decode μ.2.1 pc = .ok (.dup, 1)) (hva : va.category = 1) (kk : AW XS R μ kc ks (pc + 1) ls (va :: va :: st) P Q) : AW XS R μ kc ks pc ls (va :: st) P Q := by
  intro p l e s m args below meth c D b base X Z hX hc hz h H locs lsA hP hH hS hL
  exact lv_dup hc.1 hc.2.1 hf (by rw [cv_cat]; exact hva) (kk p l e s m args below meth c D b base X Z hX hc hz h H locs lsA hP hH hS hL)
theorem r_pop {va : Value} (hf : decode μ.2.1 pc = .ok (.pop, 1)) (hva : va.category = 1) (kk : AW XS R μ kc ks (pc + 1) ls st P Q) : AW XS R μ kc ks pc ls (va :: st) P Q := by
  intro p l e s m args below meth c D b base X Z hX hc hz h H locs lsA hP hH hS hL
  exact lv_pop hc.1 hc.2.1 hf (by rw [cv_cat]; exact hva) (kk p l e s m args below meth c D b base X Z hX hc hz h H locs lsA hP hH hS hL)
theorem r_dup2 {va vb : Value} (hf : decode μ.2.1 pc = .ok (.dup2, 1)) (hva : va.category = 1) (hvb : vb.category = 1) (kk : AW XS R μ kc ks (pc + 1) ls (va :: vb :: va :: vb :: st) P Q) : AW XS R μ kc ks pc ls (va :: vb :: st) P Q := by
  intro p l e s m args below meth c D b base X Z hX hc hz h H locs lsA hP hH hS hL
  exact lv_dup2_11 hc.1 hc.2.1 hf (by rw [cv_cat]; exact hva) (by rw [cv_cat]; exact hvb) (kk p l e s m args below meth c D b base X Z hX hc hz h H locs lsA hP hH hS hL)
theorem r_if_eq {x : Int32} {off : Int} (tgt : Nat) (hf : decode μ.2.1 pc = .ok (.ifCond .eq off, 3)) (ht : (pc : Int) + off = (tgt : Int)) (kt : x = 0 → AW XS R μ kc ks tgt ls st P Q) (kf : ¬ x = 0 → AW XS R μ kc ks (pc + 3) ls st P Q) : AW XS R μ kc ks pc ls (.int x :: st) P Q := by
  intro p l e s m args below meth c D b base X Z hX hc hz h H locs lsA hP hH hS hL
  exact lv_if_eq hc.1 hc.2.1 hf ht (fun q => kt q p l e s m args below meth c D b base X Z hX hc hz h H locs lsA hP hH hS hL) (fun q => kf q p l e s m args below meth c D b base X Z hX hc hz h H locs lsA hP hH hS hL)
theorem r_icmp_eq {x y : Int32} {off : Int} (tgt : Nat) (hf : decode μ.2.1 pc = .ok (.if_icmp .eq off, 3)) (ht : (pc : Int) + off = (tgt : Int)) (kt : x = y → AW XS R μ kc ks tgt ls st P Q) (kf : ¬ x = y → AW XS R μ kc ks (pc + 3) ls st P Q) : AW XS R μ kc ks pc ls (.int y :: .int x :: st) P Q := by
  intro p l e s m args below meth c D b base X Z hX hc hz h H locs lsA hP hH hS hL
  exact lv_icmp_eq hc.1 hc.2.1 hf ht (fun q => kt q p l e s m args below meth c D b base X Z hX hc hz h H locs lsA hP hH hS hL) (fun q => kf q p l e s m args below meth c D b base X Z hX hc hz h H locs lsA hP hH hS hL)
theorem r_if_ne {x : Int32} {off : Int} (tgt : Nat) (hf : decode μ.2.1 pc = .ok (.ifCond .ne off, 3)) (ht : (pc : Int) + off = (tgt : Int)) (kt : ¬ x = 0 → AW XS R μ kc ks tgt ls st P Q) (kf : x = 0 → AW XS R μ kc ks (pc + 3) ls st P Q) : AW XS R μ kc ks pc ls (.int x :: st) P Q := by
  intro p l e s m args below meth c D b base X Z hX hc hz h H locs lsA hP hH hS hL
  exact lv_if_ne hc.1 hc.2.1 hf ht (fun q => kt q p l e s m args below meth c D b base X Z hX hc hz h H locs lsA hP hH hS hL) (fun q => kf q p l e s m args below meth c D b base X Z hX hc hz h H locs lsA hP hH hS hL)
theorem r_icmp_ne {x y : Int32} {off : Int} (tgt : Nat) (hf : decode μ.2.1 pc = .ok (.if_icmp .ne off, 3)) (ht : (pc : Int) + off = (tgt : Int)) (kt : ¬ x = y → AW XS R μ kc ks tgt ls st P Q) (kf : x = y → AW XS R μ kc ks (pc + 3) ls st P Q) : AW XS R μ kc ks pc ls (.int y :: .int x :: st) P Q := by
  intro p l e s m args below meth c D b base X Z hX hc hz h H locs lsA hP hH hS hL
  exact lv_icmp_ne hc.1 hc.2.1 hf ht (fun q => kt q p l e s m args below meth c D b base X Z hX hc hz h H locs lsA hP hH hS hL) (fun q => kf q p l e s m args below meth c D b base X Z hX hc hz h H locs lsA hP hH hS hL)
theorem r_if_lt {x : Int32} {off : Int} (tgt : Nat) (hf : decode μ.2.1 pc = .ok (.ifCond .lt off, 3)) (ht : (pc : Int) + off = (tgt : Int)) (kt : x < 0 → AW XS R μ kc ks tgt ls st P Q) (kf : ¬ x < 0 → AW XS R μ kc ks (pc + 3) ls st P Q) : AW XS R μ kc ks pc ls (.int x :: st) P Q := by
  intro p l e s m args below meth c D b base X Z hX hc hz h H locs lsA hP hH hS hL
  exact lv_if_lt hc.1 hc.2.1 hf ht (fun q => kt q p l e s m args below meth c D b base X Z hX hc hz h H locs lsA hP hH hS hL) (fun q => kf q p l e s m args below meth c D b base X Z hX hc hz h H locs lsA hP hH hS hL)
theorem r_icmp_lt {x y : Int32} {off : Int} (tgt : Nat) (hf : decode μ.2.1 pc = .ok (.if_icmp .lt off, 3)) (ht : (pc : Int) + off = (tgt : Int)) (kt : x < y → AW XS R μ kc ks tgt ls st P Q) (kf : ¬ x < y → AW XS R μ kc ks (pc + 3) ls st P Q) : AW XS R μ kc ks pc ls (.int y :: .int x :: st) P Q := by
  intro p l e s m args below meth c D b base X Z hX hc hz h H locs lsA hP hH hS hL
  exact lv_icmp_lt hc.1 hc.2.1 hf ht (fun q => kt q p l e s m args below meth c D b base X Z hX hc hz h H locs lsA hP hH hS hL) (fun q => kf q p l e s m args below meth c D b base X Z hX hc hz h H locs lsA hP hH hS hL)
theorem r_if_ge {x : Int32} {off : Int} (tgt : Nat) (hf : decode μ.2.1 pc = .ok (.ifCond .ge off, 3)) (ht : (pc : Int) + off = (tgt : Int)) (kt : 0 ≤ x → AW XS R μ kc ks tgt ls st P Q) (kf : ¬ 0 ≤ x → AW XS R μ kc ks (pc + 3) ls st P Q) : AW XS R μ kc ks pc ls (.int x :: st) P Q := by
  intro p l e s m args below meth c D b base X Z hX hc hz h H locs lsA hP hH hS hL
  exact lv_if_ge hc.1 hc.2.1 hf ht (fun q => kt q p l e s m args below meth c D b base X Z hX hc hz h H locs lsA hP hH hS hL) (fun q => kf q p l e s m args below meth c D b base X Z hX hc hz h H locs lsA hP hH hS hL)
theorem r_icmp_ge {x y : Int32} {off : Int} (tgt : Nat) (hf : decode μ.2.1 pc = .ok (.if_icmp .ge off, 3)) (ht : (pc : Int) + off = (tgt : Int)) (kt : y ≤ x → AW XS R μ kc ks tgt ls st P Q) (kf : ¬ y ≤ x → AW XS R μ kc ks (pc + 3) ls st P Q) : AW XS R μ kc ks pc ls (.int y :: .int x :: st) P Q := by
  intro p l e s m args below meth c D b base X Z hX hc hz h H locs lsA hP hH hS hL
  exact lv_icmp_ge hc.1 hc.2.1 hf ht (fun q => kt q p l e s m args below meth c D b base X Z hX hc hz h H locs lsA hP hH hS hL) (fun q => kf q p l e s m args below meth c D b base X Z hX hc hz h H locs lsA hP hH hS hL)
theorem r_if_gt {x : Int32} {off : Int} (tgt : Nat) (hf : decode μ.2.1 pc = .ok (.ifCond .gt off, 3)) (ht : (pc : Int) + off = (tgt : Int)) (kt : 0 < x → AW XS R μ kc ks tgt ls st P Q) (kf : ¬ 0 < x → AW XS R μ kc ks (pc + 3) ls st P Q) : AW XS R μ kc ks pc ls (.int x :: st) P Q := by
  intro p l e s m args below meth c D b base X Z hX hc hz h H locs lsA hP hH hS hL
  exact lv_if_gt hc.1 hc.2.1 hf ht (fun q => kt q p l e s m args below meth c D b base X Z hX hc hz h H locs lsA hP hH hS hL) (fun q => kf q p l e s m args below meth c D b base X Z hX hc hz h H locs lsA hP hH hS hL)
theorem r_icmp_gt {x y : Int32} {off : Int} (tgt : Nat) (hf : decode μ.2.1 pc = .ok (.if_icmp .gt off, 3)) (ht : (pc : Int) + off = (tgt : Int)) (kt : y < x → AW XS R μ kc ks tgt ls st P Q) (kf : ¬ y < x → AW XS R μ kc ks (pc + 3) ls st P Q) : AW XS R μ kc ks pc ls (.int y :: .int x :: st) P Q := by
  intro p l e s m args below meth c D b base X Z hX hc hz h H locs lsA hP hH hS hL
  exact lv_icmp_gt hc.1 hc.2.1 hf ht (fun q => kt q p l e s m args below meth c D b base X Z hX hc hz h H locs lsA hP hH hS hL) (fun q => kf q p l e s m args below meth c D b base X Z hX hc hz h H locs lsA hP hH hS hL)
theorem r_if_le {x : Int32} {off : Int} (tgt : Nat) (hf : decode μ.2.1 pc = .ok (.ifCond .le off, 3)) (ht : (pc : Int) + off = (tgt : Int)) (kt : x ≤ 0 → AW XS R μ kc ks tgt ls st P Q) (kf : ¬ x ≤ 0 → AW XS R μ kc ks (pc + 3) ls st P Q) : AW XS R μ kc ks pc ls (.int x :: st) P Q := by
  intro p l e s m args below meth c D b base X Z hX hc hz h H locs lsA hP hH hS hL
  exact lv_if_le hc.1 hc.2.1 hf ht (fun q => kt q p l e s m args below meth c D b base X Z hX hc hz h H locs lsA hP hH hS hL) (fun q => kf q p l e s m args below meth c D b base X Z hX hc hz h H locs lsA hP hH hS hL)
theorem r_icmp_le {x y : Int32} {off : Int} (tgt : Nat) (hf : decode μ.2.1 pc = .ok (.if_icmp .le off, 3)) (ht : (pc : Int) + off = (tgt : Int)) (kt : x ≤ y → AW XS R μ kc ks tgt ls st P Q) (kf : ¬ x ≤ y → AW XS R μ kc ks (pc + 3) ls st P Q) : AW XS R μ kc ks pc ls (.int y :: .int x :: st) P Q := by
  intro p l e s m args below meth c D b base X Z hX hc hz h H locs lsA hP hH hS hL
  exact lv_icmp_le hc.1 hc.2.1 hf ht (fun q => kt q p l e s m args below meth c D b base X Z hX hc hz h H locs lsA hP hH hS hL) (fun q => kf q p l e s m args below meth c D b base X Z hX hc hz h H locs lsA hP hH hS hL)
theorem r_goto {off : Int} (tgt : Nat) (hf : decode μ.2.1 pc = .ok (.goto off, 3)) (ht : (pc : Int) + off = (tgt : Int)) (kk : AW XS R μ kc ks (tgt) ls st P Q) : AW XS R μ kc ks pc ls st P Q := by
  intro p l e s m args below meth c D b base X Z hX hc hz h H locs lsA hP hH hS hL
  exact lv_goto hc.1 hc.2.1 hf ht (kk p l e s m args below meth c D b base X Z hX hc hz h H locs lsA hP hH hS hL)
theorem r_ifnonnull {off : Int} {x : Nat} (tgt : Nat) (hf : decode μ.2.1 pc = .ok (.ifnonnull off, 3)) (ht : (pc : Int) + off = (tgt : Int)) (kk : AW XS R μ kc ks (tgt) ls st P Q) : AW XS R μ kc ks pc ls (.ref x :: st) P Q := by
  intro p l e s m args below meth c D b base X Z hX hc hz h H locs lsA hP hH hS hL
  exact lv_ifnonnull hc.1 hc.2.1 hf ht (kk p l e s m args below meth c D b base X Z hX hc hz h H locs lsA hP hH hS hL)
theorem r_ifnonnullN {off : Int} (hf : decode μ.2.1 pc = .ok (.ifnonnull off, 3)) (kk : AW XS R μ kc ks (pc + 3) ls st P Q) : AW XS R μ kc ks pc ls (.null :: st) P Q := by
  intro p l e s m args below meth c D b base X Z hX hc hz h H locs lsA hP hH hS hL
  exact lv_ifnonnullN hc.1 hc.2.1 hf (kk p l e s m args below meth c D b base X Z hX hc hz h H locs lsA hP hH hS hL)
theorem r_ifnull {off : Int} {x : Nat} (hf : decode μ.2.1 pc = .ok (.ifnull off, 3)) (kk : AW XS R μ kc ks (pc + 3) ls st P Q) : AW XS R μ kc ks pc ls (.ref x :: st) P Q := by
  intro p l e s m args below meth c D b base X Z hX hc hz h H locs lsA hP hH hS hL
  exact lv_ifnull hc.1 hc.2.1 hf (kk p l e s m args below meth c D b base X Z hX hc hz h H locs lsA hP hH hS hL)
theorem r_ifnullN {off : Int} (tgt : Nat) (hf : decode μ.2.1 pc = .ok (.ifnull off, 3)) (ht : (pc : Int) + off = (tgt : Int)) (kk : AW XS R μ kc ks (tgt) ls st P Q) : AW XS R μ kc ks pc ls (.null :: st) P Q := by
  intro p l e s m args below meth c D b base X Z hX hc hz h H locs lsA hP hH hS hL
  exact lv_ifnullN hc.1 hc.2.1 hf ht (kk p l e s m args below meth c D b base X Z hX hc hz h H locs lsA hP hH hS hL)
theorem r_tableIn {dflt lo hi : Int} {offs : Array Int} {len : Nat} {x : Int32} {off : Int} (tgt : Nat) (hf : decode μ.2.1 pc = .ok (.tableswitch dflt lo hi offs, len)) (h1 : ¬ x.toInt < lo) (h2 : ¬ hi < x.toInt) (ho : offs[(x.toInt - lo).toNat]? = some off) (ht : (pc : Int) + off = (tgt : Int)) (kk : AW XS R μ kc ks (tgt) ls st P Q) : AW XS R μ kc ks pc ls (.int x :: st) P Q := by
  intro p l e s m args below meth c D b base X Z hX hc hz h H locs lsA hP hH hS hL
  exact lv_tableIn hc.1 hc.2.1 hf h1 h2 ho ht (kk p l e s m args below meth c D b base X Z hX hc hz h H locs lsA hP hH hS hL)
theorem r_tableOut {dflt lo hi : Int} {offs : Array Int} {len : Nat} {x : Int32} (tgt : Nat) (hf : decode μ.2.1 pc = .ok (.tableswitch dflt lo hi offs, len)) (h1 : x.toInt < lo ∨ hi < x.toInt) (ht : (pc : Int) + dflt = (tgt : Int)) (kk : AW XS R μ kc ks (tgt) ls st P Q) : AW XS R μ kc ks pc ls (.int x :: st) P Q := by
  intro p l e s m args below meth c D b base X Z hX hc hz h H locs lsA hP hH hS hL
  exact lv_tableOut hc.1 hc.2.1 hf h1 ht (kk p l e s m args below meth c D b base X Z hX hc hz h H locs lsA hP hH hS hL)
theorem r_lookup {dflt : Int} {qs : Array (Int × Int)} {len : Nat} {x : Int32} {off : Int} (tgt : Nat) (hf : decode μ.2.1 pc = .ok (.lookupswitch dflt qs, len)) (hp : (qs.toList.zip (qs.toList.drop 1)).all (fun (a, next) => a.1 < next.1) = true) (ho : Op.lookupswitch.offset qs.toList dflt x.toInt = off) (ht : (pc : Int) + off = (tgt : Int)) (kk : AW XS R μ kc ks (tgt) ls st P Q) : AW XS R μ kc ks pc ls (.int x :: st) P Q := by
  intro p l e s m args below meth c D b base X Z hX hc hz h H locs lsA hP hH hS hL
  exact lv_lookup hc.1 hc.2.1 hf hp ho ht (kk p l e s m args below meth c D b base X Z hX hc hz h H locs lsA hP hH hS hL)
end RowsA
