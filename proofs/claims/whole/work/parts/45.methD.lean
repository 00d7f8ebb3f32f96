/-! THE WHOLE (OneGoCeiling): voice, trace -/
section MethD
variable {o : Nat} {K K9 R : CK} {hs hs9 : List (Nat × Nat)} {lD lL tp wa hd er : List Int32} {z im : Int32} {k : NS} {bt : Nat → Int32} {sh : Nat → List Int32} {h g : AH} {Q : Option Value → AH → Prop}
theorem speak_G {a b c : Int32} {i : Nat} {P' : AH → Prop} (q : GA o K hs lD lL tp wa z k bt sh hd er im h ∧ Off o 95 g h) (hok : HOk hs) (hi : a = nI i) (hi2 : i < hs.length) (hP : ∀ g2, GA o K hs lD lL tp wa z k bt sh (voiV a (nI (hKd hs i)) (nI (hMn hs i)) 41 (nI (hKd hs i)) b c []).2 er im g2 ∧ Off o 95 g g2 → P' g2) : CV 131 0 0 mX10_speak (o + 77) [.ref (o + 1 + 6), .int a, .int b, .int c] h (fun v g' => v = some (.int (voiV a (nI (hKd hs i)) (nI (hMn hs i)) 41 (nI (hKd hs i)) b c []).1) ∧ P' g') := by
  obtain ⟨nu, kd, m, v⟩ := q.1.Vo
  have r := ct_Vo_speak (i := a) (act := b) (x := c) (P' := P') v q.1.W (by omega)
  rw [show atL (hs.map fun q => nI q.1) a = nI (hKd hs i) by rw [hi]; exact hs_k hi2 hok.1, show atL (hs.map fun q => nI q.2) a = nI (hMn hs i) by rw [hi]; exact hs_m hi2 hok.1] at r
  exact r (fun g2 x y => hP g2 ⟨q.1.setVo ⟨_, _, _, x⟩ y, q.2.tr (y.wide (by omega) (by omega))⟩)
set_option maxHeartbeats 8000000 in
theorem ct_G_voice {a b c : Int32} (q : GA o K hs lD lL tp wa z k bt sh hd er im g) (hok : HOk hs) (e1 : (hdB hs a && wiB b 0 3) = false → ∀ g', GA o K hs lD lL tp wa z k bt sh hd (errL er 1) im g' → Off o 95 g g' → Q (some (.int (-1000000000 - 1))) g') (hP : ∀ i, a = nI i → i < hs.length → wiB b 0 3 = true → ∀ g', GA o K hs lD lL tp wa z k bt sh (voiV a (nI (hKd hs i)) (nI (hMn hs i)) 41 (nI (hKd hs i)) b c []).2 er im g' → Off o 95 g g' → Q (some (.int (voiV a (nI (hKd hs i)) (nI (hMn hs i)) 41 (nI (hKd hs i)) b c []).1)) g') : CV 132 0 0 mX11_voice o [.int a, .int b, .int c] g Q := by
  refine ⟨q.V, ?_⟩
  refine ct_of (by decide) (fun _ _ => Nat.le_of_ble_eq_true rfl) ?_
  dsimp only [pad, ent]
  refine aw_P (P' := fun g' => GA o K hs lD lL tp wa z k bt sh hd er im g' ∧ Off o 95 g g') (fun g' e => by subst e; exact ⟨q, Off.rf _ _ _⟩) ?_
  refine r_aload_n (pc := 0) dX11_voice_0 rfl ?_
  refine r_getf (pc := 1) (k := 0) dX11_voice_1 hX11 eX11 (by decide) fX11_10 (fun _ q => q.1.oo) rfl ?_
  refine r_getf (pc := 4) (k := 1) dX11_voice_4 hX7 eX7 (by decide) fX11_140 (fun _ q => q.1.s) rfl ?_
  refine r_iload_n (pc := 7) dX11_voice_7 rfl ?_
  refine r_Vi (pc := 8) (μ' := mX1_has) dX11_voice_8 nX11_153 iX1_has vX1_has kX1_has rfl rfl (rr (by omega) rfl) rfl ⟨Nat.zero_le _, Nat.zero_le _⟩ (fun g' q => ct_Crew_has q.1.W q) ?_
  refine r_if_eq (pc := 11) 23 dX11_voice_11 (by decide) (fun c11 => ?_) (fun c11 => ?_)
  · skip
    have k1 : hdB hs a = false := b2i_0.mp c11
    refine r_aload_n (pc := 23) dX11_voice_23 rfl ?_
    refine r_iconst (pc := 24) (v := 1) dX11_voice_24 (by decide) ?_
    refine r_Vi (pc := 25) (μ' := mX11_error) dX11_voice_25 nX11_88 iX11_error vX11_error kX11_error rfl rfl (rr (by omega) rfl) rfl ⟨Nat.zero_le _, Nat.zero_le _⟩ (fun g' q => ct_G_error (P' := fun g2 => Q (some (.int (-1000000000 - 1))) g2) q.1 (fun g2 x y => e1 (by first | (rw [k1]; rfl) | (rw [k1, k2]; rfl)) g2 x (q.2.tr y))) ?_
    refine r_ireturn (pc := 28) (ty := .int) dX11_voice_28 rfl rfl ⟨Nat.zero_le _, Nat.zero_le _⟩ (fun gE hg => ?_)
    exact hg
  · skip
    have k1 : hdB hs a = true := b2i_n0.mp c11
    refine r_iload_n (pc := 14) dX11_voice_14 rfl ?_
    refine r_iconst (pc := 15) (v := 0) dX11_voice_15 (by decide) ?_
    refine r_iconst (pc := 16) (v := 3) dX11_voice_16 (by decide) ?_
    refine r_Sp (pc := 17) (μ' := mX11_within) dX11_voice_17 nX11_84 sX11_within kX11_within rfl rfl (rr (by omega) rfl) rfl ⟨Nat.zero_le _, Nat.zero_le _⟩ (fun h => ct_G_within h) ?_
    refine r_if_ne (pc := 20) 29 dX11_voice_20 (by decide) (fun c20 => ?_) (fun c20 => ?_)
    · skip
      have k2 := b2i_n0.mp c20
      obtain ⟨i, hi, hi2⟩ := hd_t k1 hok
      refine r_aload_n (pc := 29) dX11_voice_29 rfl ?_
      refine r_getf (pc := 30) (k := 5) dX11_voice_30 hX11 eX11 (by decide) fX11_54 (fun _ q => q.1.oo) rfl ?_
      refine r_aload_n (pc := 33) dX11_voice_33 rfl ?_
      refine r_getf (pc := 34) (k := 0) dX11_voice_34 hX11 eX11 (by decide) fX11_10 (fun _ q => q.1.oo) rfl ?_
      refine r_getf (pc := 37) (k := 1) dX11_voice_37 hX7 eX7 (by decide) fX11_140 (fun _ q => q.1.s) rfl ?_
      refine r_iload_n (pc := 40) dX11_voice_40 rfl ?_
      refine r_iload_n (pc := 41) dX11_voice_41 rfl ?_
      refine r_iload_n (pc := 42) dX11_voice_42 rfl ?_
      refine r_Vi (pc := 43) (μ' := mX10_speak) dX11_voice_43 nX11_313 iX10_speak vX10_speak kX10_speak rfl rfl (rr (by omega) rfl) rfl ⟨Nat.zero_le _, Nat.zero_le _⟩ (fun g' q => speak_G q hok hi hi2 (fun g2 x => x)) ?_
      refine r_ireturn (pc := 46) (ty := .int) dX11_voice_46 rfl rfl ⟨Nat.zero_le _, Nat.zero_le _⟩ (fun gE hg => ?_)
      exact hP i hi hi2 k2 _ hg.1 hg.2
    · skip
      have k2 := b2i_0.mp c20
      refine r_aload_n (pc := 23) dX11_voice_23 rfl ?_
      refine r_iconst (pc := 24) (v := 1) dX11_voice_24 (by decide) ?_
      refine r_Vi (pc := 25) (μ' := mX11_error) dX11_voice_25 nX11_88 iX11_error vX11_error kX11_error rfl rfl (rr (by omega) rfl) rfl ⟨Nat.zero_le _, Nat.zero_le _⟩ (fun g' q => ct_G_error (P' := fun g2 => Q (some (.int (-1000000000 - 1))) g2) q.1 (fun g2 x y => e1 (by first | (rw [k1]; rfl) | (rw [k1, k2]; rfl)) g2 x (q.2.tr y))) ?_
      refine r_ireturn (pc := 28) (ty := .int) dX11_voice_28 rfl rfl ⟨Nat.zero_le _, Nat.zero_le _⟩ (fun gE hg => ?_)
      exact hg
end MethD
