/-! THE WHOLE (OneGoCeiling): the ceiling, hands, what is done -/
theorem nI_tn {a : Int32} (h0 : 0 ≤ a.toInt) (h1 : a.toInt ≤ 4000) : nI a.toInt.toNat = a := Int32.toInt_inj.mp (by rw [nI_T (by omega)]; omega)
theorem wi_t {v a b : Int32} (h : wiB v a b = true) : a.toInt ≤ v.toInt ∧ v.toInt ≤ b.toInt := of_decide_eq_true h
theorem wi_nat {v b : Int32} (h : wiB v 0 b = true) (hb : b.toInt ≤ 4000) : ∃ n : Nat, v = nI n ∧ (n : Int) ≤ b.toInt := by
  have := wi_t h
  rw [t0] at this
  exact ⟨v.toInt.toNat, (nI_tn (by omega) (by omega)).symm, by omega⟩
def hdB (hs : List (Nat × Nat)) (a : Int32) : Bool := hasL (hs.map fun q => nI q.1) a
theorem hd_t {hs : List (Nat × Nat)} {a : Int32} (h : hdB hs a = true) (ok : HOk hs) : ∃ i, a = nI i ∧ i < hs.length := by
  have h2 := of_decide_eq_true h
  rw [List.length_map] at h2
  have := ok.1
  exact ⟨a.toInt.toNat, (nI_tn (by omega) (by omega)).symm, by omega⟩
/-- a ceiling is built -/
def buildK (K : CK) (a b : Nat) : CK := match K with
  | (_, _, mi, he, le, wh, si, ca, _, _) => (a, b, mi, he, le, wh, si, ca, fun _ _ => -1, fun _ _ => 0)
theorem rep_tab {x : Int32} {a b : Nat} : List.replicate (a * b) x = tab a b fun _ _ => x := by
  refine list_ext (by rw [tab_len, List.length_replicate]) (fun j hj => ?_)
  rw [List.length_replicate] at hj
  rw [tab_get hj, getD_in (by rw [List.length_replicate]; exact hj), List.getElem_replicate]
section Meth
variable {o : Nat} {K K9 : CK} {hs hs9 : List (Nat × Nat)} {lD lL tp wa hd er : List Int32} {z im : Int32} {k : NS} {bt : Nat → Int32} {sh : Nat → List Int32} {h g : AH} {Q : Option Value → AH → Prop}
set_option maxHeartbeats 8000000 in
theorem ct_G_ceiling {a b : Int32} (q : GA o K hs lD lL tp wa z k bt sh hd er im g) (e1 : (wiB a 1 6 && wiB b 1 6) = false → ∀ g', GA o K hs lD lL tp wa z k bt sh hd (errL er 1) im g' → Off o 95 g g' → Q (some (.int (-1000000000 - 1))) g') (hP : (wiB a 1 6 && wiB b 1 6) = true → ∀ g', GA o (buildK K a.toInt.toNat b.toInt.toNat) hs lD lL tp wa z k bt sh hd er im g' → Off o 95 g g' → Q (some (.int (a * b))) g') : CV 4 0 0 mX11_ceiling o [.int a, .int b] g Q := by
  refine ⟨q.V, ?_⟩
  refine ct_of (by decide) (fun _ _ => Nat.le_of_ble_eq_true rfl) ?_
  dsimp only [pad, ent]
  refine aw_P (P' := fun g' => GA o K hs lD lL tp wa z k bt sh hd er im g' ∧ Off o 95 g g') (fun g' e => by subst e; exact ⟨q, Off.rf _ _ _⟩) ?_
  refine r_iload_n (pc := 0) dX11_ceiling_0 rfl ?_
  refine r_iconst (pc := 1) (v := 1) dX11_ceiling_1 (by decide) ?_
  refine r_bipush (pc := 2) (v := 6) dX11_ceiling_2 (by decide) ?_
  refine r_Sp (pc := 4) (μ' := mX11_within) dX11_ceiling_4 nX11_84 sX11_within kX11_within rfl rfl (rr (by decide) rfl) rfl ⟨Nat.zero_le _, Nat.zero_le _⟩ (fun h => ct_G_within h) ?_
  refine r_if_eq (pc := 7) 20 dX11_ceiling_7 (by decide) (fun c7 => ?_) (fun c7 => ?_)
  · skip
    have k1 := b2i_0.mp c7
    refine r_aload_n (pc := 20) dX11_ceiling_20 rfl ?_
    refine r_iconst (pc := 21) (v := 1) dX11_ceiling_21 (by decide) ?_
    refine r_Vi (pc := 22) (μ' := mX11_error) dX11_ceiling_22 nX11_88 iX11_error vX11_error kX11_error rfl rfl (rr (by decide) rfl) rfl ⟨Nat.zero_le _, Nat.zero_le _⟩ (fun g' q => ct_G_error (P' := fun g2 => Q (some (.int (-1000000000 - 1))) g2) q.1 (fun g2 a b => e1 (by first | (rw [k1]; rfl) | (rw [k1, k2]; rfl) | (rw [k1, k2, k3]; rfl)) g2 a (q.2.tr b))) ?_
    refine r_ireturn (pc := 25) (ty := .int) dX11_ceiling_25 rfl rfl ⟨Nat.zero_le _, Nat.zero_le _⟩ (fun gE hg => ?_)
    exact hg
  · skip
    have k1 := b2i_n0.mp c7
    refine r_iload_n (pc := 10) dX11_ceiling_10 rfl ?_
    refine r_iconst (pc := 11) (v := 1) dX11_ceiling_11 (by decide) ?_
    refine r_bipush (pc := 12) (v := 6) dX11_ceiling_12 (by decide) ?_
    refine r_Sp (pc := 14) (μ' := mX11_within) dX11_ceiling_14 nX11_84 sX11_within kX11_within rfl rfl (rr (by decide) rfl) rfl ⟨Nat.zero_le _, Nat.zero_le _⟩ (fun h => ct_G_within h) ?_
    refine r_if_ne (pc := 17) 26 dX11_ceiling_17 (by decide) (fun c17 => ?_) (fun c17 => ?_)
    · skip
      have k2 := b2i_n0.mp c17
      refine r_aload_n (pc := 26) dX11_ceiling_26 rfl ?_
      refine r_getf (pc := 27) (k := 0) dX11_ceiling_27 hX11 eX11 (by decide) fX11_10 (fun _ q => q.1.oo) rfl ?_
      refine r_getf (pc := 30) (k := 0) dX11_ceiling_30 hX7 eX7 (by decide) fX11_92 (fun _ q => q.1.s) rfl ?_
      refine r_iload_n (pc := 33) dX11_ceiling_33 rfl ?_
      refine r_iload_n (pc := 34) dX11_ceiling_34 rfl ?_
      refine r_Vv (pc := 35) (μ' := mX0_build) dX11_ceiling_35 nX11_96 iX0_build vX0_build kX0_build rfl rfl (rr (by decide) rfl) rfl ⟨Nat.zero_le _, Nat.zero_le _⟩ (fun g' q => ct_Ceil_build (P' := fun g2 => Q (some (.int (a * b))) g2) (q.1.Ci : CeilI _ _ _ _ _ _ _ _ _ _ _ _) (fun g2 x y => by
            have w1 := wi_t k1
            have w2 := wi_t k2
            rw [t1, show (6 : Int32).toInt = 6 from rfl] at w1 w2
            have h1 : a = nI a.toInt.toNat := (nI_tn (by omega) (by omega)).symm
            have h2 : b = nI b.toInt.toNat := (nI_tn (by omega) (by omega)).symm
            obtain ⟨A, hA⟩ : ∃ A, A = a.toInt.toNat := ⟨_, rfl⟩
            obtain ⟨B, hB⟩ : ∃ B, B = b.toInt.toNat := ⟨_, rfl⟩
            rw [← hA] at h1 hP
            rw [← hB] at h2 hP
            subst h1
            subst h2
            have hm : A * B ≤ 6 * 6 := Nat.mul_le_mul (by omega) (by omega)
            have hc : clampI (nI A * nI B) 36 = A * B := by unfold clampI; rw [pk_mul, nI_T (by omega)]; omega
            rw [hc, rep_tab, rep_tab] at x
            exact hP (by rw [k1, k2]; rfl) g2 (q.1.setC (K9 := buildK K A B) x y) (q.2.tr (y.wide (by omega) (by omega))))) ?_
      refine r_iload_n (pc := 38) dX11_ceiling_38 rfl ?_
      refine r_iload_n (pc := 39) dX11_ceiling_39 rfl ?_
      refine r_imul (pc := 40) dX11_ceiling_40 ?_
      refine r_ireturn (pc := 41) (ty := .int) dX11_ceiling_41 rfl rfl ⟨Nat.zero_le _, Nat.zero_le _⟩ (fun gE hg => ?_)
      exact hg
    · skip
      have k2 := b2i_0.mp c17
      refine r_aload_n (pc := 20) dX11_ceiling_20 rfl ?_
      refine r_iconst (pc := 21) (v := 1) dX11_ceiling_21 (by decide) ?_
      refine r_Vi (pc := 22) (μ' := mX11_error) dX11_ceiling_22 nX11_88 iX11_error vX11_error kX11_error rfl rfl (rr (by decide) rfl) rfl ⟨Nat.zero_le _, Nat.zero_le _⟩ (fun g' q => ct_G_error (P' := fun g2 => Q (some (.int (-1000000000 - 1))) g2) q.1 (fun g2 a b => e1 (by first | (rw [k1]; rfl) | (rw [k1, k2]; rfl) | (rw [k1, k2, k3]; rfl)) g2 a (q.2.tr b))) ?_
      refine r_ireturn (pc := 25) (ty := .int) dX11_ceiling_25 rfl rfl ⟨Nat.zero_le _, Nat.zero_le _⟩ (fun gE hg => ?_)
      exact hg
end Meth
