/-! THE WHOLE (OneGoCeiling): voice, trace -/
section MethD
variable {o : Nat} {K K9 R : CK} {hs hs9 : List (Nat × Nat)} {lD lL tp wa hd er : List Int32} {z im : Int32} {k : NS} {bt : Nat → Int32} {sh : Nat → List Int32} {h g : AH} {Q : Option Value → AH → Prop}
theorem speak_G {a b c : Int32} {i : Nat} {P' : AH → Prop} (q : GA o K hs lD lL tp wa z k bt sh hd er im h ∧ Off o 95 g h) (hok : HOk hs) (hi : a = nI i) (hi2 : i < hs.length) (hP : ∀ g2, GA o K hs lD lL tp wa z k bt sh (voiV a (nI (hKd hs i)) (nI (hMn hs i)) 41 (nI (hKd hs i)) b c []).2 er im g2 ∧ Off o 95 g g2 → P' g2) : CV 131 0 0 mX10_speak (o + 77) [.ref (o + 1 + 6), .int a, .int b, .int c] h (fun v g' => v = some (.int (voiV a (nI (hKd hs i)) (nI (hMn hs i)) 41 (nI (hKd hs i)) b c []).1) ∧ P' g') := by
  obtain ⟨nu, kd, m, v⟩ := q.1.Vo
  have r := ct_Vo_speak (i := a) (act := b) (x := c) (P' := P') v q.1.W (by omega)
  rw [show atL (hs.map fun q => nI q.1) a = nI (hKd hs i) by rw [hi]; exact hs_k hi2 hok.1, show atL (hs.map fun q => nI q.2) a = nI (hMn hs i) by rw [hi]; exact hs_m hi2 hok.1] at r
  exact r (fun g2 x y => hP g2 ⟨q.1.setVo ⟨_, _, _, x⟩ y, q.2.tr (y.wide (by omega) (by omega))⟩)
end MethD
