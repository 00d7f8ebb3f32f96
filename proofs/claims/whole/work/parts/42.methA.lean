/-! THE WHOLE (OneGoCeiling): trace, DAYS -/
theorem dayK_ok {K : CK} {hs : List (Nat × Nat)} {z : Int32} (ok : KOk K) (tb : TB K 9999 9999) (hok : HOk hs) (h0 : 0 < hs.length) : KOk (dayK hs K z) ∧ TB (dayK hs K z) 9999 9999 := by
  have hl := hok.1
  obtain ⟨x, hx⟩ : ∃ x, x = cap9 (kMi K + drawN (drawI (drawI (drawI z))) 8) := ⟨_, rfl⟩
  have hx9 : x ≤ 9999 := by rw [hx]; exact cap9_le _
  unfold dayK
  rw [← hx]
  split
  · have h := hok.at (draw_ok (z := z) h0 (by omega)).2
    have t : TB (setMi K x) 9900 9999 := (TB.setMi tb).mono (by omega) (Nat.le_refl _)
    exact ⟨(paintK_ok (setMi_ok ok)).1, (TB.paint t (setMi_ok ok) h.1 h.2 (by omega)).mono (by omega) (Nat.le_refl _)⟩
  · exact ⟨setMi_ok ok, (TB.setMi tb).mono hx9 (Nat.le_refl _)⟩
def dyS (hs : List (Nat × Nat)) (K : CK) (z : Int32) : Nat → CK × Int32
  | 0 => (K, z)
  | n + 1 => (dayK hs (dyS hs K z n).1 (dyS hs K z n).2, dayZ (dyS hs K z n).2)
theorem dyS_ok {K : CK} {hs : List (Nat × Nat)} {z : Int32} (ok : KOk K) (tb : TB K 9999 9999) (hok : HOk hs) (h0 : 0 < hs.length) : ∀ n, KOk (dyS hs K z n).1 ∧ TB (dyS hs K z n).1 9999 9999
  | 0 => ⟨ok, tb⟩
  | n + 1 => by
    obtain ⟨a, b⟩ := dyS_ok (z := z) ok tb hok h0 n
    exact dayK_ok a b hok h0
section MethA
variable {o : Nat} {K K9 R : CK} {hs hs9 : List (Nat × Nat)} {lD lL tp wa hd er : List Int32} {z im : Int32} {k : NS} {bt : Nat → Int32} {sh : Nat → List Int32} {h g : AH} {Q : Option Value → AH → Prop}
set_option maxHeartbeats 8000000 in
theorem ct_G_days {a : Int32} (q : GA o K hs lD lL tp wa z k bt sh hd er im g) (ok : KOk K) (tb : TB K 9999 9999) (hok : HOk hs) (e1 : wiB a 1 30 = false → ∀ g', GA o K hs lD lL tp wa z k bt sh hd (errL er 1) im g' → Off o 95 g g' → Q (some (.int (-1000000000 - 1))) g') (e3 : wiB a 1 30 = true → hs.length = 0 → ∀ g', GA o K hs lD lL tp wa z k bt sh hd (errL er 3) im g' → Off o 95 g g' → Q (some (.int (-1000000000 - 3))) g') (hP : ∀ n, a = nI n → 1 ≤ n → n ≤ 30 → 0 < hs.length → ∀ g', GA o (dyS hs K z n).1 hs lD lL tp wa (dyS hs K z n).2 k bt sh hd er im g' → Off o 95 g g' → Q (some (.int (nI (seenN (dyS hs K z n).1 (drL lD (kHe (dyS hs K z n).1)) (ltL lL))))) g') : CV 10 0 0 mX11_days o [.int a] g Q := by
  refine ⟨q.V, ?_⟩
  refine ct_of (by decide) (fun _ _ => Nat.le_of_ble_eq_true rfl) ?_
  dsimp only [pad, ent]
  have hlen := hok.1
  have hTl := nI_T (n := hs.length) (by omega)
  have L : ∀ n, a = nI n → 1 ≤ n → n ≤ 30 → 0 < hs.length → ∀ j, j ≤ n → AW (fun _ => True) (rmd 10 0 0) mX11_days 0 0 37 [some (.ref o), some (.int (nI n)), some (.int (nI j))] [] (fun g' => GA o (dyS hs K z j).1 hs lD lL tp wa (dyS hs K z j).2 k bt sh hd er im g' ∧ Off o 95 g g') Q := by
    intro n hn h1 h2 h0
    have hTn := nI_T (n := n) (by omega)
    refine up_loop ?_ ?_
    · obtain ⟨ok2, tb2⟩ := dyS_ok (z := z) ok tb hok h0 n
      refine r_iload_n (pc := 37) dX11_days_37 rfl ?_
      refine r_iload_n (pc := 38) dX11_days_38 rfl ?_
      refine r_icmp_ge (pc := 39) 55 dX11_days_39 (by decide) (fun c39 => ?_) (fun c39 => ?_)
      · skip
        refine r_aload_n (pc := 55) dX11_days_55 rfl ?_
        refine r_getf (pc := 56) (k := 3) dX11_days_56 hX11 eX11 (by decide) fX11_38 (fun _ q => q.1.oo) rfl ?_
        refine r_aload_n (pc := 59) dX11_days_59 rfl ?_
        refine r_getf (pc := 60) (k := 0) dX11_days_60 hX11 eX11 (by decide) fX11_10 (fun _ q => q.1.oo) rfl ?_
        refine r_getf (pc := 63) (k := 0) dX11_days_63 hX7 eX7 (by decide) fX11_92 (fun _ q => q.1.s) rfl ?_
        refine r_Vi (pc := 66) (μ' := mX2_seen) dX11_days_66 nX11_232 iX2_seen vX2_seen kX2_seen rfl rfl (rr (by omega) rfl) rfl ⟨Nat.zero_le _, Nat.zero_le _⟩ (fun g' q => ct_Eye_seen (P' := fun g2 => GA o (dyS hs K z n).1 hs lD lL tp wa (dyS hs K z n).2 k bt sh hd er im g2 ∧ Off o 95 g g2) q.1.ec ok2 (tb2.wb (by omega)) (fun g2 x y => ⟨q.1.eye x.1 y, q.2.tr (eyO y)⟩)) ?_
        refine r_ireturn (pc := 69) (ty := .int) dX11_days_69 rfl rfl ⟨Nat.zero_le _, Nat.zero_le _⟩ (fun gE hg => ?_)
        exact hP n hn h1 h2 h0 _ hg.1 hg.2
      · skip
        exact absurd (fa_le.mpr (Int.le_refl _)) c39
    · intro j hj ih
      obtain ⟨ok2, tb2⟩ := dyS_ok (z := z) ok tb hok h0 j
      have hTj := nI_T (n := j) (by omega)
      refine r_iload_n (pc := 37) dX11_days_37 rfl ?_
      refine r_iload_n (pc := 38) dX11_days_38 rfl ?_
      refine r_icmp_ge (pc := 39) 55 dX11_days_39 (by decide) (fun c39 => ?_) (fun c39 => ?_)
      · skip
        exact absurd c39 (fun x => by have := fa_le.mp x; omega)
      · skip
        refine r_aload_n (pc := 42) dX11_days_42 rfl ?_
        refine r_getf (pc := 43) (k := 0) dX11_days_43 hX11 eX11 (by decide) fX11_10 (fun _ q => q.1.oo) rfl ?_
        refine r_Vv (pc := 46) (μ' := mX7_passDay) dX11_days_46 nX11_229 iX7_passDay vX7_passDay kX7_passDay rfl rfl (rr (by omega) rfl) rfl ⟨Nat.zero_le _, Nat.zero_le _⟩ (fun g' q => ct_St_passDay (P' := fun g2 => GA o (dyS hs K z (j + 1)).1 hs lD lL tp wa (dyS hs K z (j + 1)).2 k bt sh hd er im g2 ∧ Off o 95 g g2) q.1.St ok2 hok h0 tb2.1 (fun g2 x y => ⟨q.1.setS x y, q.2.tr (y.wide (by omega) (by omega))⟩)) ?_
        refine r_iinc1 (pc := 49) dX11_days_49 rfl (Nat.le_of_ble_eq_true rfl) rfl ?_
        dsimp only [lset]
        refine r_goto (pc := 52) 37 dX11_days_52 (by decide) ?_
        rw [nI_s]
        exact ih
  refine aw_P (P' := fun g' => GA o K hs lD lL tp wa z k bt sh hd er im g' ∧ Off o 95 g g') (fun g' e => by subst e; exact ⟨q, Off.rf _ _ _⟩) ?_
  refine r_iload_n (pc := 0) dX11_days_0 rfl ?_
  refine r_iconst (pc := 1) (v := 1) dX11_days_1 (by decide) ?_
  refine r_bipush (pc := 2) (v := 30) dX11_days_2 (by decide) ?_
  refine r_Sp (pc := 4) (μ' := mX11_within) dX11_days_4 nX11_84 sX11_within kX11_within rfl rfl (rr (by omega) rfl) rfl ⟨Nat.zero_le _, Nat.zero_le _⟩ (fun h => ct_G_within h) ?_
  refine r_if_ne (pc := 7) 16 dX11_days_7 (by decide) (fun c7 => ?_) (fun c7 => ?_)
  · skip
    have k1 := b2i_n0.mp c7
    have w1 := wi_t k1
    rw [t1, show (30 : Int32).toInt = 30 from rfl] at w1
    obtain ⟨n, hn, h1, h2⟩ : ∃ n, a = nI n ∧ 1 ≤ n ∧ n ≤ 30 := ⟨a.toInt.toNat, (nI_tn (by omega) (by omega)).symm, by omega, by omega⟩
    refine r_aload_n (pc := 16) dX11_days_16 rfl ?_
    refine r_getf (pc := 17) (k := 0) dX11_days_17 hX11 eX11 (by decide) fX11_10 (fun _ q => q.1.oo) rfl ?_
    refine r_getf (pc := 20) (k := 1) dX11_days_20 hX7 eX7 (by decide) fX11_140 (fun _ q => q.1.s) rfl ?_
    refine r_Vi (pc := 23) (μ' := mX1_size) dX11_days_23 nX11_226 iX1_size vX1_size kX1_size rfl rfl (rr (by omega) rfl) rfl ⟨Nat.zero_le _, Nat.zero_le _⟩ (fun g' q => ct_Crew_size q.1.W q) ?_
    rw [List.length_map]
    refine r_if_ne (pc := 26) 35 dX11_days_26 (by decide) (fun c26 => ?_) (fun c26 => ?_)
    · skip
      have h0 : 0 < hs.length := by
        have : ¬ hs.length = 0 := fun x => c26 (by rw [x]; rfl)
        omega
      refine r_iconst (pc := 35) (v := 0) dX11_days_35 (by decide) ?_
      refine r_istore_n (pc := 36) dX11_days_36 rfl (Nat.le_of_ble_eq_true rfl) rfl ?_
      dsimp only [lset]
      rw [hn]
      exact L n hn h1 h2 h0 0 (Nat.zero_le _)
    · skip
      have h0 : hs.length = 0 := by have := fa_eq.mp c26; rw [hTl, t0] at this; omega
      refine r_aload_n (pc := 29) dX11_days_29 rfl ?_
      refine r_iconst (pc := 30) (v := 3) dX11_days_30 (by decide) ?_
      refine r_Vi (pc := 31) (μ' := mX11_error) dX11_days_31 nX11_88 iX11_error vX11_error kX11_error rfl rfl (rr (by omega) rfl) rfl ⟨Nat.zero_le _, Nat.zero_le _⟩ (fun g' q => ct_G_error (P' := fun g2 => Q (some (.int (-1000000000 - 3))) g2) q.1 (fun g2 x y => e3 k1 h0 g2 x (q.2.tr y))) ?_
      refine r_ireturn (pc := 34) (ty := .int) dX11_days_34 rfl rfl ⟨Nat.zero_le _, Nat.zero_le _⟩ (fun gE hg => ?_)
      exact hg
  · skip
    have k1 := b2i_0.mp c7
    refine r_aload_n (pc := 10) dX11_days_10 rfl ?_
    refine r_iconst (pc := 11) (v := 1) dX11_days_11 (by decide) ?_
    refine r_Vi (pc := 12) (μ' := mX11_error) dX11_days_12 nX11_88 iX11_error vX11_error kX11_error rfl rfl (rr (by omega) rfl) rfl ⟨Nat.zero_le _, Nat.zero_le _⟩ (fun g' q => ct_G_error (P' := fun g2 => Q (some (.int (-1000000000 - 1))) g2) q.1 (fun g2 x y => e1 k1 g2 x (q.2.tr y))) ?_
    refine r_ireturn (pc := 15) (ty := .int) dX11_days_15 rfl rfl ⟨Nat.zero_le _, Nat.zero_le _⟩ (fun gE hg => ?_)
    exact hg
end MethA
