/-! THE WHOLE (OneGoCeiling): put -/
def upS {α : Type} (f : Nat → α) (j : Nat) (x : α) : Nat → α := fun i => if i = j then x else f i
section MethC
variable {o : Nat} {K K9 R : CK} {hs hs9 : List (Nat × Nat)} {lD lL tp wa hd er : List Int32} {z im : Int32} {k : NS} {bt : Nat → Int32} {sh : Nat → List Int32} {h g : AH} {Q : Option Value → AH → Prop}
theorem ShX.put {j : Nat} {b : Int32} {l : List Int32} (q : ShX o bt sh h) (hj : j < 4) (a : SheetAt (o + 81 + 3 * j) b l g) (e : Off (o + 81 + 3 * j) 3 h g) : ShX o (upS bt j b) (upS sh j l) g := fun i hi => by
  unfold upS
  by_cases c : i = j
  · rw [if_pos c, if_pos c, c]; exact a
  · rw [if_neg c, if_neg c]; exact (q i hi).same (e.same (by omega))
set_option maxHeartbeats 8000000 in
theorem ct_G_put {a b c : Int32} (q : GA o K hs lD lL tp wa z k bt sh hd er im g) (e1 : shB a = false → ∀ g', GA o K hs lD lL tp wa z k bt sh hd (errL er 1) im g' → Off o 95 g g' → Q (some (.int (-1000000000 - 1))) g') (e2 : ∀ j, a = nI j → j < 4 → bt j = 0 → ∀ g', GA o K hs lD lL tp wa z k bt sh hd (errL er 2) im g' → Off o 95 g g' → Q (some (.int (-1000000000 - 2))) g') (e1b : ∀ j, a = nI j → j < 4 → ¬ bt j = 0 → hasL (sh j) b = false → ∀ g', GA o K hs lD lL tp wa z k bt sh hd (errL er 1) im g' → Off o 95 g g' → Q (some (.int (-1000000000 - 1))) g') (hP : ∀ j, a = nI j → j < 4 → ¬ bt j = 0 → hasL (sh j) b = true → ∀ g', GA o K hs lD lL tp wa z k (upS bt j (bt j)) (upS sh j (wrL (sh j) b (narI (bt j) c))) hd er im g' → Off o 95 g g' → Q (some (.int 1)) g') : CV 6 0 0 mX11_put o [.int a, .int b, .int c] g Q := by
  refine ⟨q.V, ?_⟩
  refine ct_of (by decide) (fun _ _ => Nat.le_of_ble_eq_true rfl) ?_
  dsimp only [pad, ent]
  refine aw_P (P' := fun g' => GA o K hs lD lL tp wa z k bt sh hd er im g' ∧ Off o 95 g g') (fun g' e => by subst e; exact ⟨q, Off.rf _ _ _⟩) ?_
  by_cases hb : shB a = true
  · obtain ⟨j, hj, hj4⟩ := sh_t hb
    refine r_aload_n (pc := 0) dX11_put_0 rfl ?_
    refine r_iload_n (pc := 1) dX11_put_1 rfl ?_
    rw [hj]
    refine r_Vr (pc := 2) (μ' := mX11_sheetOf) dX11_put_2 nX11_239 iX11_sheetOf vX11_sheetOf kX11_sheetOf rfl rfl (rr (by decide) rfl) rfl ⟨Nat.zero_le _, Nat.zero_le _⟩ (fun g' q => sheet_in q.1 hj4 q) ?_
    refine r_astore (pc := 5) dX11_put_5 (Nat.le_of_ble_eq_true rfl) rfl ?_
    dsimp only [lset]
    refine r_aload (pc := 7) dX11_put_7 rfl ?_
    refine r_ifnonnull (pc := 9) 18 dX11_put_9 (by decide) ?_
    refine r_aload (pc := 18) dX11_put_18 rfl ?_
    refine r_Vi (pc := 20) (μ' := mX6_isMissing) dX11_put_20 nX11_243 iX6_isMissing vX6_isMissing kX6_isMissing rfl rfl (rr (by decide) rfl) rfl ⟨Nat.zero_le _, Nat.zero_le _⟩ (fun g' q => ct_Sheet_isMissing (q.1.Sh j hj4) q) ?_
    refine r_if_eq (pc := 23) 32 dX11_put_23 (by decide) (fun c23 => ?_) (fun c23 => ?_)
    · skip
      have k3 : ¬ bt j = 0 := of_decide_eq_false (b2i_0.mp c23)
      refine r_aload (pc := 32) dX11_put_32 rfl ?_
      refine r_getf (pc := 34) (k := 0) dX11_put_34 hX6 eX6 (by decide) fX11_246 (fun _ q => (q.1.Sh j hj4).o) rfl ?_
      refine r_iload_n (pc := 37) dX11_put_37 rfl ?_
      refine r_Vi (pc := 38) (μ' := mX5_has) dX11_put_38 nX11_321 iX5_has vX5_has kX5_has rfl rfl (rr (by decide) rfl) rfl ⟨Nat.zero_le _, Nat.zero_le _⟩ (fun g' q => ct_Row_has (q.1.Sh j hj4).2.2 q) ?_
      refine r_if_ne (pc := 41) 50 dX11_put_41 (by decide) (fun c41 => ?_) (fun c41 => ?_)
      · skip
        have k4 := b2i_n0.mp c41
        refine r_aload (pc := 50) dX11_put_50 rfl ?_
        refine r_iload_n (pc := 52) dX11_put_52 rfl ?_
        refine r_iload_n (pc := 53) dX11_put_53 rfl ?_
        refine r_Vv (pc := 54) (μ' := mX6_write) dX11_put_54 nX11_334 iX6_write vX6_write kX6_write rfl rfl (rr (by decide) rfl) rfl ⟨Nat.zero_le _, Nat.zero_le _⟩ (fun g' q => ct_Sheet_write (P' := fun g2 => Q (some (.int 1)) g2) (q.1.Sh j hj4) (fun g2 x y => hP j hj hj4 k3 k4 g2 (q.1.setSh (q.1.Sh.put hj4 x y) (y.wide (by omega) (by omega))) (q.2.tr (y.wide (by omega) (by omega))))) ?_
        refine r_iconst (pc := 57) (v := 1) dX11_put_57 (by decide) ?_
        refine r_ireturn (pc := 58) (ty := .int) dX11_put_58 rfl rfl ⟨Nat.zero_le _, Nat.zero_le _⟩ (fun gE hg => ?_)
        exact hg
      · skip
        have k4 := b2i_0.mp c41
        refine r_aload_n (pc := 44) dX11_put_44 rfl ?_
        refine r_iconst (pc := 45) (v := 1) dX11_put_45 (by decide) ?_
        refine r_Vi (pc := 46) (μ' := mX11_error) dX11_put_46 nX11_88 iX11_error vX11_error kX11_error rfl rfl (rr (by decide) rfl) rfl ⟨Nat.zero_le _, Nat.zero_le _⟩ (fun g' q => ct_G_error (P' := fun g2 => Q (some (.int (-1000000000 - 1))) g2) q.1 (fun g2 x y => e1b j hj hj4 k3 k4 g2 x (q.2.tr y))) ?_
        refine r_ireturn (pc := 49) (ty := .int) dX11_put_49 rfl rfl ⟨Nat.zero_le _, Nat.zero_le _⟩ (fun gE hg => ?_)
        exact hg
    · skip
      have k3 : bt j = 0 := of_decide_eq_true (b2i_n0.mp c23)
      refine r_aload_n (pc := 26) dX11_put_26 rfl ?_
      refine r_iconst (pc := 27) (v := 2) dX11_put_27 (by decide) ?_
      refine r_Vi (pc := 28) (μ' := mX11_error) dX11_put_28 nX11_88 iX11_error vX11_error kX11_error rfl rfl (rr (by decide) rfl) rfl ⟨Nat.zero_le _, Nat.zero_le _⟩ (fun g' q => ct_G_error (P' := fun g2 => Q (some (.int (-1000000000 - 2))) g2) q.1 (fun g2 x y => e2 j hj hj4 k3 g2 x (q.2.tr y))) ?_
      refine r_ireturn (pc := 31) (ty := .int) dX11_put_31 rfl rfl ⟨Nat.zero_le _, Nat.zero_le _⟩ (fun gE hg => ?_)
      exact hg
  · have hb2 : shB a = false := by cases h : shB a <;> simp_all
    refine r_aload_n (pc := 0) dX11_put_0 rfl ?_
    refine r_iload_n (pc := 1) dX11_put_1 rfl ?_
    refine r_VrN (pc := 2) (μ' := mX11_sheetOf) dX11_put_2 nX11_239 iX11_sheetOf vX11_sheetOf kX11_sheetOf rfl rfl (rr (by decide) rfl) rfl ⟨Nat.zero_le _, Nat.zero_le _⟩ (fun g' q => sheet_out q.1 (of_decide_eq_false hb2) q) ?_
    refine r_astoreN (pc := 5) dX11_put_5 (Nat.le_of_ble_eq_true rfl) rfl ?_
    dsimp only [lset]
    refine r_aloadN (pc := 7) dX11_put_7 rfl ?_
    refine r_ifnonnullN (pc := 9) dX11_put_9 ?_
    refine r_aload_n (pc := 12) dX11_put_12 rfl ?_
    refine r_iconst (pc := 13) (v := 1) dX11_put_13 (by decide) ?_
    refine r_Vi (pc := 14) (μ' := mX11_error) dX11_put_14 nX11_88 iX11_error vX11_error kX11_error rfl rfl (rr (by decide) rfl) rfl ⟨Nat.zero_le _, Nat.zero_le _⟩ (fun g' q => ct_G_error (P' := fun g2 => Q (some (.int (-1000000000 - 1))) g2) q.1 (fun g2 x y => e1 hb2 g2 x (q.2.tr y))) ?_
    refine r_ireturn (pc := 17) (ty := .int) dX11_put_17 rfl rfl ⟨Nat.zero_le _, Nat.zero_le _⟩ (fun gE hg => ?_)
    exact hg
end MethC
