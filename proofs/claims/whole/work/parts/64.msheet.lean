/-! THE REFERENCE, whole: SHEETS, whites, judge -/
section Msheet
variable {m : Nat} {h : AH} {K K2 : CK} {hs hs2 : List (Nat × Nat)} {tD tL tD2 tL2 : Option (List Int32)} {tp wa tp2 wa2 hd er lD lL : List Int32} {z im z2 : Int32} {k : MK} {bt : Nat → Int32} {sh : Nat → List Int32} {s s2 : Nat → Int32} {A A2 : Nat → Nat → Int32} {Q : Option Value → AH → Prop} {f : Nat → Int32}
theorem MG.shs (q : MG K hs tD tL tp wa z k bt sh hd er im s A) {j : Nat} (hj : j < 4) : A 7 j = bt j ∧ A 8 j = nI (sh j).length ∧ (sh j).length ≤ 40 ∧ ∀ i, i < (sh j).length → A 9 (40 * j + i) = (sh j).getD i 0 := q.2.2.2.2.1 j hj
theorem MG.shp {j : Nat} {b : Int32} {l : List Int32} (q : MG K hs tD tL tp wa z k bt sh hd er im s A) (hj : j < 4) (hA : ∀ i, (i = 0 ∨ i = 1 ∨ i = 4 ∨ i = 13) → A2 i = A i) (h7 : A2 7 j = b) (h8 : A2 8 j = nI l.length) (hl : l.length ≤ 40) (h9 : ∀ i, i < l.length → A2 9 (40 * j + i) = l.getD i 0) (o7 : ∀ x, x < 4 → x ≠ j → A2 7 x = A 7 x ∧ A2 8 x = A 8 x) (o9 : ∀ y, ¬ (40 * j ≤ y ∧ y < 40 * j + 40) → A2 9 y = A 9 y) : MG K hs tD tL tp wa z k (upS bt j b) (upS sh j l) hd er im s A2 := by
  obtain ⟨q1, q2, q3, q4, q5, q6⟩ := q
  unfold MG
  rw [hA 0 (by omega), hA 1 (by omega), hA 4 (by omega), hA 13 (by omega)]
  refine ⟨q1, q2, q3, q4, fun x hx => ?_, q6⟩
  unfold upS
  by_cases e : x = j
  · rw [if_pos e, if_pos e, e]
    exact ⟨h7, h8, hl, h9⟩
  · rw [if_neg e, if_neg e, (o7 x hx e).1, (o7 x hx e).2]
    obtain ⟨a1, a2, a3, a4⟩ := q5 x hx
    exact ⟨a1, a2, a3, fun i hi => by rw [o9 _ (by omega)]; exact a4 i hi⟩
theorem ix40 (j i : Nat) : (40 : Int32) * nI j + nI i = nI (40 * j + i) := by rw [show (40 : Int32) * nI j = nI (40 * j) from pk_mul 40 j, nI_add]
set_option maxHeartbeats 4000000 in
theorem cm_put (hm : m + 14 < h.1) {a b c : Int32} (q : MG K hs tD tL tp wa z k bt sh hd er im s A) (e1 : shB a = false → ∀ s2 A2, MG K hs tD tL tp wa z k bt sh hd (errL er 1) im s2 A2 → Q (some (.int (-1000000000 - 1))) (mh m h s2 A2)) (e2 : ∀ j, a = nI j → j < 4 → bt j = 0 → ∀ s2 A2, MG K hs tD tL tp wa z k bt sh hd (errL er 2) im s2 A2 → Q (some (.int (-1000000000 - 2))) (mh m h s2 A2)) (e1b : ∀ j, a = nI j → j < 4 → ¬ bt j = 0 → hasL (sh j) b = false → ∀ s2 A2, MG K hs tD tL tp wa z k bt sh hd (errL er 1) im s2 A2 → Q (some (.int (-1000000000 - 1))) (mh m h s2 A2)) (hP : ∀ j, a = nI j → j < 4 → ¬ bt j = 0 → hasL (sh j) b = true → ∀ s2 A2, MG K hs tD tL tp wa z k (upS bt j (bt j)) (upS sh j (wrL (sh j) b (narI (bt j) c))) hd er im s2 A2 → Q (some (.int 1)) (mh m h s2 A2)) : CV 6 0 0 mX12_put m [.int a, .int b, .int c] (mh m h s A) Q := by
  refine ⟨mV hm, ?_⟩
  refine ct_of (by decide) (fun _ _ => Nat.le_of_ble_eq_true rfl) ?_
  dsimp only [pad, ent]
  refine aw_P (P' := MP m h s A) (fun _ q => q) ?_
  refine r_iload_n (pc := 0) dX12_put_0 rfl ?_
  refine r_Sp (pc := 1) (μ' := mX12_isSheet) dX12_put_1 nX12_217 sX12_isSheet kX12_isSheet rfl rfl (rr (by decide) rfl) rfl ⟨Nat.zero_le _, Nat.zero_le _⟩ (fun h => ct_M_isSheet h) ?_
  refine r_if_ne (pc := 4) 14 dX12_put_4 (by decide) (fun c4 => ?_) (fun c4 => ?_)
  · skip
    have kb := b2i_n0.mp c4
    obtain ⟨j, hj, hj4⟩ := sh_t kb
    obtain ⟨a1, a2, a3, a4⟩ := q.shs hj4
    refine r_aload_n (pc := 14) dX12_put_14 rfl ?_
    refine r_getf (pc := 15) (k := 19) dX12_put_15 hX12 eX12 (by decide) fX12_31 (fun _ q => mo hm q) rfl ?_
    refine r_iload_n (pc := 18) dX12_put_18 rfl ?_
    rw [hj]
    refine r_ml (pc := 19) (i := 7) (j := j) hm dX12_put_19 (by decide) (nI_T (by omega)) (show j < 4 by omega) ?_
    rw [a1]
    refine r_if_ne (pc := 20) 30 dX12_put_20 (by decide) (fun c20 => ?_) (fun c20 => ?_)
    · skip
      refine r_iload_n (pc := 30) dX12_put_30 rfl ?_
      refine r_iconst (pc := 31) (v := 0) dX12_put_31 (by decide) ?_
      refine r_aload_n (pc := 32) dX12_put_32 rfl ?_
      refine r_getf (pc := 33) (k := 20) dX12_put_33 hX12 eX12 (by decide) fX12_34 (fun _ q => mo hm q) rfl ?_
      refine r_iload_n (pc := 36) dX12_put_36 rfl ?_
      refine r_ml (pc := 37) (i := 8) (j := j) hm dX12_put_37 (by decide) (nI_T (by omega)) (show j < 4 by omega) ?_
      rw [a2]
      refine r_iconst (pc := 38) (v := 1) dX12_put_38 (by decide) ?_
      refine r_isub (pc := 39) dX12_put_39 ?_
      refine r_Sp (pc := 40) (μ' := mX12_in) dX12_put_40 nX12_57 sX12_in kX12_in rfl rfl (rr (by decide) rfl) rfl ⟨Nat.zero_le _, Nat.zero_le _⟩ (fun h => ct_M_in h) ?_
      rw [wi_hasL (by omega)]
      refine r_if_ne (pc := 43) 53 dX12_put_43 (by decide) (fun c43 => ?_) (fun c43 => ?_)
      · skip
        have k2 := b2i_n0.mp c43
        have w1 := of_decide_eq_true k2
        obtain ⟨i, hi, hi2⟩ : ∃ i, b = nI i ∧ i < (sh j).length := ⟨b.toInt.toNat, (nI_tn (by omega) (by omega)).symm, by omega⟩
        have h7 := hP j hj hj4 c20 k2
        rw [show wrL (sh j) b (narI (bt j) c) = (sh j).set i (narI (bt j) c) by rw [hi]; exact wrL_nI (by omega)] at h7
        refine r_aload_n (pc := 53) dX12_put_53 rfl ?_
        refine r_getf (pc := 54) (k := 21) dX12_put_54 hX12 eX12 (by decide) fX12_37 (fun _ q => mo hm q) rfl ?_
        refine r_bipush (pc := 57) (v := 40) dX12_put_57 (by decide) ?_
        refine r_iload_n (pc := 59) dX12_put_59 rfl ?_
        refine r_imul (pc := 60) dX12_put_60 ?_
        refine r_iload_n (pc := 61) dX12_put_61 rfl ?_
        rw [hi]
        refine r_iadd (pc := 62) dX12_put_62 ?_
        rw [ix40]
        refine r_aload_n (pc := 63) dX12_put_63 rfl ?_
        refine r_getf (pc := 64) (k := 19) dX12_put_64 hX12 eX12 (by decide) fX12_31 (fun _ q => mo hm q) rfl ?_
        refine r_iload_n (pc := 67) dX12_put_67 rfl ?_
        refine r_ml (pc := 68) (i := 7) (j := j) hm dX12_put_68 (by decide) (nI_T (by omega)) (show j < 4 by omega) ?_
        rw [a1]
        refine r_iload_n (pc := 69) dX12_put_69 rfl ?_
        refine r_Sp (pc := 70) (μ' := mX12_narrow) dX12_put_70 nX12_272 sX12_narrow kX12_narrow rfl rfl (rr (by decide) rfl) rfl ⟨Nat.zero_le _, Nat.zero_le _⟩ (fun h => ct_M_narrow h) ?_
        refine r_ms (pc := 73) (i := 9) (j := (40 * j + i)) hm dX12_put_73 (by decide) (nI_T (by omega)) (show (40 * j + i) < 160 by omega) ?_
        refine r_iconst (pc := 74) (v := 1) dX12_put_74 (by decide) ?_
        refine r_ireturn (pc := 75) (ty := .int) dX12_put_75 rfl rfl ⟨Nat.zero_le _, Nat.zero_le _⟩ (fun gE hg => ?_)
        refine mR hg (h7 _ _ (q.shp hj4 (fun x hx => upA_n (by omega)) a1 (by rw [List.length_set]; exact a2) (by rw [List.length_set]; exact a3) (fun y hy => ?_) (fun x _ _ => ⟨rfl, rfl⟩) (fun y hy => ?_)))
        · rw [List.length_set] at hy
          rw [upA_s, getD_set hi2]
          by_cases e : y = i
          · rw [if_pos e, e, upd_s]
          · rw [if_neg e, upd_n (by omega)]; exact a4 y hy
        · rw [upA_s, upd_n (by omega)]
      · skip
        have k2 := b2i_0.mp c43
        refine r_aload_n (pc := 46) dX12_put_46 rfl ?_
        refine r_ldc (pc := 47) (v := (-1000000001)) dX12_put_47 qX12_61 ?_
        refine r_Vi (pc := 49) (μ' := mX12_errs) dX12_put_49 nX12_62 iX12_errs vX12_errs kX12_errs rfl rfl (rr (by decide) rfl) rfl ⟨Nat.zero_le _, Nat.zero_le _⟩ (fun _ q_ => cvq q_ (ct_M_errs hm 1 (by decide) (by decide))) ?_
        rw [show (-1000000001 : Int32) = -1000000000 - 1 from rfl]
        refine r_ireturn (pc := 52) (ty := .int) dX12_put_52 rfl rfl ⟨Nat.zero_le _, Nat.zero_le _⟩ (fun gE hg => ?_)
        exact mR hg (e1b j hj hj4 c20 k2 _ _ (q.err (by decide) rfl))
    · skip
      refine r_aload_n (pc := 23) dX12_put_23 rfl ?_
      refine r_ldc (pc := 24) (v := (-1000000002)) dX12_put_24 qX12_220 ?_
      refine r_Vi (pc := 26) (μ' := mX12_errs) dX12_put_26 nX12_62 iX12_errs vX12_errs kX12_errs rfl rfl (rr (by decide) rfl) rfl ⟨Nat.zero_le _, Nat.zero_le _⟩ (fun _ q_ => cvq q_ (ct_M_errs hm 2 (by decide) (by decide))) ?_
      rw [show (-1000000002 : Int32) = -1000000000 - 2 from rfl]
      refine r_ireturn (pc := 29) (ty := .int) dX12_put_29 rfl rfl ⟨Nat.zero_le _, Nat.zero_le _⟩ (fun gE hg => ?_)
      exact mR hg (e2 j hj hj4 c20 _ _ (q.err (by decide) rfl))
  · skip
    have kb := b2i_0.mp c4
    refine r_aload_n (pc := 7) dX12_put_7 rfl ?_
    refine r_ldc (pc := 8) (v := (-1000000001)) dX12_put_8 qX12_61 ?_
    refine r_Vi (pc := 10) (μ' := mX12_errs) dX12_put_10 nX12_62 iX12_errs vX12_errs kX12_errs rfl rfl (rr (by decide) rfl) rfl ⟨Nat.zero_le _, Nat.zero_le _⟩ (fun _ q_ => cvq q_ (ct_M_errs hm 1 (by decide) (by decide))) ?_
    rw [show (-1000000001 : Int32) = -1000000000 - 1 from rfl]
    refine r_ireturn (pc := 13) (ty := .int) dX12_put_13 rfl rfl ⟨Nat.zero_le _, Nat.zero_le _⟩ (fun gE hg => ?_)
    exact mR hg (e1 kb _ _ (q.err (by decide) rfl))
set_option maxHeartbeats 4000000 in
theorem cm_sheet (hm : m + 14 < h.1) {a b c : Int32} (q : MG K hs tD tL tp wa z k bt sh hd er im s A) (e1 : (shB a && wdB b) = false → ∀ s2 A2, MG K hs tD tL tp wa z k bt sh hd (errL er 1) im s2 A2 → Q (some (.int (-1000000000 - 1))) (mh m h s2 A2)) (h0 : ∀ j, a = nI j → j < 4 → b = 0 → ∀ s2 A2, MG K hs tD tL tp wa z k (upS bt j 0) (upS sh j []) hd er im s2 A2 → Q (some (.int 1)) (mh m h s2 A2)) (e3 : ∀ j, a = nI j → j < 4 → wdB b = true → ¬ b = 0 → c.toInt < 0 → ∀ s2 A2, MG K hs tD tL tp wa z k bt sh hd (errL er 3) im s2 A2 → Q (some (.int (-1000000000 - 3))) (mh m h s2 A2)) (e1b : ∀ j, a = nI j → j < 4 → wdB b = true → ¬ b = 0 → 40 < c.toInt → ∀ s2 A2, MG K hs tD tL tp wa z k bt sh hd (errL er 1) im s2 A2 → Q (some (.int (-1000000000 - 1))) (mh m h s2 A2)) (hP : ∀ j n, a = nI j → j < 4 → wdB b = true → ¬ b = 0 → c = nI n → n ≤ 40 → ∀ s2 A2, MG K hs tD tL tp wa z k (upS bt j b) (upS sh j (List.replicate n 0)) hd er im s2 A2 → Q (some (.int 1)) (mh m h s2 A2)) : CV 6 0 0 mX12_sheet m [.int a, .int b, .int c] (mh m h s A) Q := by
  refine ⟨mV hm, ?_⟩
  refine ct_of (by decide) (fun _ _ => Nat.le_of_ble_eq_true rfl) ?_
  dsimp only [pad, ent]
  -- from the row of numbers on
  have Z : ∀ j n, a = nI j → j < 4 → n ≤ 40 → (∀ s2 A2, MG K hs tD tL tp wa z k (upS bt j b) (upS sh j (List.replicate n 0)) hd er im s2 A2 → Q (some (.int 1)) (mh m h s2 A2)) → ∀ A1 : Nat → Nat → Int32, (∀ i, (i = 0 ∨ i = 1 ∨ i = 4 ∨ i = 13) → A1 i = A i) → A1 7 j = b → A1 8 j = nI n → (∀ x, x < 4 → x ≠ j → A1 7 x = A 7 x ∧ A1 8 x = A 8 x) → A1 9 = A 9 → AW (fun _ => True) (rmd 6 0 0) mX12_sheet 0 0 90 [some (.ref m), some (.int a), some (.int b), some (.int c), none] [] (MP m h s A1) Q := by
    intro j n hj hj4 hn h7 A1 b0 b7 b8 bo b9
    have L : ∀ x, x ≤ 40 → ∀ f : Nat → Int32, (∀ y, 40 * j ≤ y → y < 40 * j + x → f y = 0) → (∀ y, ¬ (40 * j ≤ y ∧ y < 40 * j + 40) → f y = A 9 y) → AW (fun _ => True) (rmd 6 0 0) mX12_sheet 0 0 93 [some (.ref m), some (.int a), some (.int b), some (.int c), some (.int (nI x))] [] (MP m h s (upA A1 9 f)) Q := by
      refine up_loop ?_ ?_
      · intro f f1 f2
        refine r_iload (pc := 93) dX12_sheet_93 rfl ?_
        refine r_bipush (pc := 95) (v := 40) dX12_sheet_95 (by decide) ?_
        refine r_icmp_ge (pc := 97) 119 dX12_sheet_97 (by decide) (fun c97 => ?_) (fun c97 => ?_)
        · skip
          refine r_iconst (pc := 119) (v := 1) dX12_sheet_119 (by decide) ?_
          refine r_ireturn (pc := 120) (ty := .int) dX12_sheet_120 rfl rfl ⟨Nat.zero_le _, Nat.zero_le _⟩ (fun gE hg => ?_)
          refine mR hg (h7 _ _ (q.shp hj4 (fun x hx => (upA_n (by omega)).trans (b0 x hx)) ((congrFun (upA_n (by decide)) j).trans b7) ((congrFun (upA_n (by decide)) j).trans (by rw [List.length_replicate]; exact b8)) (by rw [List.length_replicate]; exact hn) (fun y hy => ?_) (fun x h1 h2 => ⟨(congrFun (upA_n (by decide)) x).trans (bo x h1 h2).1, (congrFun (upA_n (by decide)) x).trans (bo x h1 h2).2⟩) (fun y hy => by rw [upA_s]; exact f2 y hy)))
          rw [List.length_replicate] at hy
          rw [upA_s, f1 _ (by omega) (by omega), getD_rep hy]
        · skip
          exact absurd (by decide) c97
      · intro x hx ih f f1 f2
        have hT := nI_T (n := x) (by omega)
        refine r_iload (pc := 93) dX12_sheet_93 rfl ?_
        refine r_bipush (pc := 95) (v := 40) dX12_sheet_95 (by decide) ?_
        refine r_icmp_ge (pc := 97) 119 dX12_sheet_97 (by decide) (fun c97 => ?_) (fun c97 => ?_)
        · skip
          exact absurd c97 (fun y => by have := fa_le.mp y; rw [hT, show (40 : Int32).toInt = 40 from rfl] at this; omega)
        · skip
          refine r_aload_n (pc := 100) dX12_sheet_100 rfl ?_
          refine r_getf (pc := 101) (k := 21) dX12_sheet_101 hX12 eX12 (by decide) fX12_37 (fun _ q => mo hm q) rfl ?_
          refine r_bipush (pc := 104) (v := 40) dX12_sheet_104 (by decide) ?_
          rw [hj]
          refine r_iload_n (pc := 106) dX12_sheet_106 rfl ?_
          refine r_imul (pc := 107) dX12_sheet_107 ?_
          refine r_iload (pc := 108) dX12_sheet_108 rfl ?_
          refine r_iadd (pc := 110) dX12_sheet_110 ?_
          rw [ix40]
          refine r_iconst (pc := 111) (v := 0) dX12_sheet_111 (by decide) ?_
          refine r_ms (pc := 112) (i := 9) (j := (40 * j + x)) hm dX12_sheet_112 (by decide) (nI_T (by omega)) (show (40 * j + x) < 160 by omega) ?_
          refine r_iinc1 (pc := 113) dX12_sheet_113 rfl (Nat.le_of_ble_eq_true rfl) rfl ?_
          dsimp only [lset]
          refine r_goto (pc := 116) 93 dX12_sheet_116 (by decide) ?_
          rw [nI_1, upA_2, upA_s, ← hj]
          exact ih _ (fun y h1 h2 => by
            by_cases e : y = 40 * j + x
            · rw [e, upd_s]
            · rw [upd_n e]; exact f1 y h1 (by omega)) (fun y hy => by rw [upd_n (by omega)]; exact f2 y hy)
    refine aw_P (P' := MP m h s (upA A1 9 (A1 9))) (fun _ q => by rw [upA_id]; exact q) ?_
    refine r_iconst (pc := 90) (v := 0) dX12_sheet_90 (by decide) ?_
    refine r_istore (pc := 91) dX12_sheet_91 (Nat.le_of_ble_eq_true rfl) rfl ?_
    dsimp only [lset]
    exact L 0 (Nat.zero_le _) (A1 9) (fun y h1 h2 => absurd h2 (by omega)) (fun y _ => by rw [b9])
  refine aw_P (P' := MP m h s A) (fun _ q => q) ?_
  by_cases kb : shB a = true
  · obtain ⟨j, hj, hj4⟩ := sh_t kb
    obtain ⟨a1, a2, a3, a4⟩ := q.shs hj4
    by_cases kw : wdB b = true
    · have kw2 := of_decide_eq_true kw
      by_cases b0 : b = 0
      · subst b0
        refine r_iload_n (pc := 0) dX12_sheet_0 rfl ?_
        refine r_Sp (pc := 1) (μ' := mX12_isSheet) dX12_sheet_1 nX12_217 sX12_isSheet kX12_isSheet rfl rfl (rr (by decide) rfl) rfl ⟨Nat.zero_le _, Nat.zero_le _⟩ (fun h => ct_M_isSheet h) ?_
        rw [kb]
        refine r_if_eq (pc := 4) 29 dX12_sheet_4 (by decide) (fun c4 => ?_) (fun c4 => ?_)
        · skip
          exact absurd c4 (by decide)
        · skip
          refine r_iload_n (pc := 7) dX12_sheet_7 rfl ?_
          refine r_if_eq (pc := 8) 36 dX12_sheet_8 (by decide) (fun c8 => ?_) (fun c8 => ?_)
          · skip
            refine r_iload_n (pc := 36) dX12_sheet_36 rfl ?_
            refine r_if_eq (pc := 37) 51 dX12_sheet_37 (by decide) (fun c37 => ?_) (fun c37 => ?_)
            · skip
              refine r_iload_n (pc := 51) dX12_sheet_51 rfl ?_
              refine r_if_eq (pc := 52) 68 dX12_sheet_52 (by decide) (fun c52 => ?_) (fun c52 => ?_)
              · skip
                refine r_aload_n (pc := 68) dX12_sheet_68 rfl ?_
                refine r_getf (pc := 69) (k := 19) dX12_sheet_69 hX12 eX12 (by decide) fX12_31 (fun _ q => mo hm q) rfl ?_
                refine r_iload_n (pc := 72) dX12_sheet_72 rfl ?_
                refine r_iload_n (pc := 73) dX12_sheet_73 rfl ?_
                refine r_ms (pc := 74) (i := 7) (j := j) hm dX12_sheet_74 (by decide) (by rw [hj]; exact nI_T (by omega)) (show j < 4 by omega) ?_
                refine r_aload_n (pc := 75) dX12_sheet_75 rfl ?_
                refine r_getf (pc := 76) (k := 20) dX12_sheet_76 hX12 eX12 (by decide) fX12_34 (fun _ q => mo hm q) rfl ?_
                refine r_iload_n (pc := 79) dX12_sheet_79 rfl ?_
                refine r_iload_n (pc := 80) dX12_sheet_80 rfl ?_
                refine r_if_ne (pc := 81) 88 dX12_sheet_81 (by decide) (fun c81 => ?_) (fun c81 => ?_)
                · skip
                  exact absurd rfl c81
                · skip
                  refine r_iconst (pc := 84) (v := 0) dX12_sheet_84 (by decide) ?_
                  refine r_goto (pc := 85) 89 dX12_sheet_85 (by decide) ?_
                  refine r_ms (pc := 89) (i := 8) (j := j) hm dX12_sheet_89 (by decide) (by rw [hj]; exact nI_T (by omega)) (show j < 4 by omega) ?_
                  exact Z j 0 hj hj4 (by omega) (h0 j hj hj4 rfl) _ (fun i hi => (upA_n (by omega)).trans (upA_n (by omega))) ((congrFun (upA_n (by decide)) j).trans ((congrFun upA_s j).trans upd_s)) ((congrFun upA_s j).trans upd_s) (fun x h1 h2 => ⟨(congrFun (upA_n (by decide)) x).trans ((congrFun upA_s x).trans (upd_n h2)), (congrFun upA_s x).trans (upd_n h2)⟩) rfl
              · skip
                exact absurd rfl c52
            · skip
              exact absurd rfl c37
          · skip
            exact absurd rfl c8
      · have b3 : b = 8 ∨ b = 16 ∨ b = 32 := by
          rcases kw2 with e | e
          · exact absurd e b0
          · exact e
        have T : AW (fun _ => True) (rmd 6 0 0) mX12_sheet 0 0 36 [some (.ref m), some (.int a), some (.int b), some (.int c), none] [] (MP m h s A) Q := by
          refine r_iload_n (pc := 36) dX12_sheet_36 rfl ?_
          refine r_if_eq (pc := 37) 51 dX12_sheet_37 (by decide) (fun c37 => ?_) (fun c37 => ?_)
          · skip
            exact absurd c37 b0
          · skip
            refine r_iload_n (pc := 40) dX12_sheet_40 rfl ?_
            refine r_if_ge (pc := 41) 51 dX12_sheet_41 (by decide) (fun c41 => ?_) (fun c41 => ?_)
            · skip
              have k3 := fa_le.mp c41
              rw [t0] at k3
              refine r_iload_n (pc := 51) dX12_sheet_51 rfl ?_
              refine r_if_eq (pc := 52) 68 dX12_sheet_52 (by decide) (fun c52 => ?_) (fun c52 => ?_)
              · skip
                exact absurd c52 b0
              · skip
                refine r_iload_n (pc := 55) dX12_sheet_55 rfl ?_
                refine r_bipush (pc := 56) (v := 40) dX12_sheet_56 (by decide) ?_
                refine r_icmp_le (pc := 58) 68 dX12_sheet_58 (by decide) (fun c58 => ?_) (fun c58 => ?_)
                · skip
                  have k4 := fa_le.mp c58
                  rw [show (40 : Int32).toInt = 40 from rfl] at k4
                  obtain ⟨n, hn, hn2⟩ : ∃ n, c = nI n ∧ n ≤ 40 := ⟨c.toInt.toNat, (nI_tn (by omega) (by omega)).symm, by omega⟩
                  refine r_aload_n (pc := 68) dX12_sheet_68 rfl ?_
                  refine r_getf (pc := 69) (k := 19) dX12_sheet_69 hX12 eX12 (by decide) fX12_31 (fun _ q => mo hm q) rfl ?_
                  refine r_iload_n (pc := 72) dX12_sheet_72 rfl ?_
                  refine r_iload_n (pc := 73) dX12_sheet_73 rfl ?_
                  refine r_ms (pc := 74) (i := 7) (j := j) hm dX12_sheet_74 (by decide) (by rw [hj]; exact nI_T (by omega)) (show j < 4 by omega) ?_
                  refine r_aload_n (pc := 75) dX12_sheet_75 rfl ?_
                  refine r_getf (pc := 76) (k := 20) dX12_sheet_76 hX12 eX12 (by decide) fX12_34 (fun _ q => mo hm q) rfl ?_
                  refine r_iload_n (pc := 79) dX12_sheet_79 rfl ?_
                  refine r_iload_n (pc := 80) dX12_sheet_80 rfl ?_
                  refine r_if_ne (pc := 81) 88 dX12_sheet_81 (by decide) (fun c81 => ?_) (fun c81 => ?_)
                  · skip
                    refine r_iload_n (pc := 88) dX12_sheet_88 rfl ?_
                    refine r_ms (pc := 89) (i := 8) (j := j) hm dX12_sheet_89 (by decide) (by rw [hj]; exact nI_T (by omega)) (show j < 4 by omega) ?_
                    exact Z j n hj hj4 hn2 (hP j n hj hj4 kw b0 hn hn2) _ (fun i hi => (upA_n (by omega)).trans (upA_n (by omega))) ((congrFun (upA_n (by decide)) j).trans ((congrFun upA_s j).trans upd_s)) ((congrFun upA_s j).trans (upd_s.trans hn)) (fun x h1 h2 => ⟨(congrFun (upA_n (by decide)) x).trans ((congrFun upA_s x).trans (upd_n h2)), (congrFun upA_s x).trans (upd_n h2)⟩) rfl
                  · skip
                    exact absurd c81 b0
                · skip
                  have k4 : ¬ c.toInt ≤ (40 : Int32).toInt := fun x => c58 (fa_le.mpr x)
                  rw [show (40 : Int32).toInt = 40 from rfl] at k4
                  refine r_aload_n (pc := 61) dX12_sheet_61 rfl ?_
                  refine r_ldc (pc := 62) (v := (-1000000001)) dX12_sheet_62 qX12_61 ?_
                  refine r_Vi (pc := 64) (μ' := mX12_errs) dX12_sheet_64 nX12_62 iX12_errs vX12_errs kX12_errs rfl rfl (rr (by decide) rfl) rfl ⟨Nat.zero_le _, Nat.zero_le _⟩ (fun _ q_ => cvq q_ (ct_M_errs hm 1 (by decide) (by decide))) ?_
                  rw [show (-1000000001 : Int32) = -1000000000 - 1 from rfl]
                  refine r_ireturn (pc := 67) (ty := .int) dX12_sheet_67 rfl rfl ⟨Nat.zero_le _, Nat.zero_le _⟩ (fun gE hg => ?_)
                  exact mR hg (e1b j hj hj4 kw b0 (by omega) _ _ (q.err (by decide) rfl))
            · skip
              have k3 : ¬ (0 : Int32).toInt ≤ c.toInt := fun x => c41 (fa_le.mpr x)
              rw [t0] at k3
              refine r_aload_n (pc := 44) dX12_sheet_44 rfl ?_
              refine r_ldc (pc := 45) (v := (-1000000003)) dX12_sheet_45 qX12_202 ?_
              refine r_Vi (pc := 47) (μ' := mX12_errs) dX12_sheet_47 nX12_62 iX12_errs vX12_errs kX12_errs rfl rfl (rr (by decide) rfl) rfl ⟨Nat.zero_le _, Nat.zero_le _⟩ (fun _ q_ => cvq q_ (ct_M_errs hm 3 (by decide) (by decide))) ?_
              rw [show (-1000000003 : Int32) = -1000000000 - 3 from rfl]
              refine r_ireturn (pc := 50) (ty := .int) dX12_sheet_50 rfl rfl ⟨Nat.zero_le _, Nat.zero_le _⟩ (fun gE hg => ?_)
              exact mR hg (e3 j hj hj4 kw b0 (by omega) _ _ (q.err (by decide) rfl))
        refine r_iload_n (pc := 0) dX12_sheet_0 rfl ?_
        refine r_Sp (pc := 1) (μ' := mX12_isSheet) dX12_sheet_1 nX12_217 sX12_isSheet kX12_isSheet rfl rfl (rr (by decide) rfl) rfl ⟨Nat.zero_le _, Nat.zero_le _⟩ (fun h => ct_M_isSheet h) ?_
        rw [kb]
        refine r_if_eq (pc := 4) 29 dX12_sheet_4 (by decide) (fun c4 => ?_) (fun c4 => ?_)
        · skip
          exact absurd c4 (by decide)
        · skip
          refine r_iload_n (pc := 7) dX12_sheet_7 rfl ?_
          refine r_if_eq (pc := 8) 36 dX12_sheet_8 (by decide) (fun c8 => ?_) (fun c8 => ?_)
          · skip
            exact absurd c8 b0
          · skip
            refine r_iload_n (pc := 11) dX12_sheet_11 rfl ?_
            refine r_bipush (pc := 12) (v := 8) dX12_sheet_12 (by decide) ?_
            refine r_icmp_eq (pc := 14) 36 dX12_sheet_14 (by decide) (fun c14 => ?_) (fun c14 => ?_)
            · skip
              exact T
            · skip
              refine r_iload_n (pc := 17) dX12_sheet_17 rfl ?_
              refine r_bipush (pc := 18) (v := 16) dX12_sheet_18 (by decide) ?_
              refine r_icmp_eq (pc := 20) 36 dX12_sheet_20 (by decide) (fun c20 => ?_) (fun c20 => ?_)
              · skip
                exact T
              · skip
                refine r_iload_n (pc := 23) dX12_sheet_23 rfl ?_
                refine r_bipush (pc := 24) (v := 32) dX12_sheet_24 (by decide) ?_
                refine r_icmp_eq (pc := 26) 36 dX12_sheet_26 (by decide) (fun c26 => ?_) (fun c26 => ?_)
                · skip
                  exact T
                · skip
                  exact absurd b3 (by simp [c14, c20, c26])
    · have kw2 : wdB b = false := by cases e : wdB b <;> simp_all
      have kw3 := of_decide_eq_false kw2
      refine r_iload_n (pc := 0) dX12_sheet_0 rfl ?_
      refine r_Sp (pc := 1) (μ' := mX12_isSheet) dX12_sheet_1 nX12_217 sX12_isSheet kX12_isSheet rfl rfl (rr (by decide) rfl) rfl ⟨Nat.zero_le _, Nat.zero_le _⟩ (fun h => ct_M_isSheet h) ?_
      refine r_if_eq (pc := 4) 29 dX12_sheet_4 (by decide) (fun c4 => ?_) (fun c4 => ?_)
      · skip
        refine r_aload_n (pc := 29) dX12_sheet_29 rfl ?_
        refine r_ldc (pc := 30) (v := (-1000000001)) dX12_sheet_30 qX12_61 ?_
        refine r_Vi (pc := 32) (μ' := mX12_errs) dX12_sheet_32 nX12_62 iX12_errs vX12_errs kX12_errs rfl rfl (rr (by decide) rfl) rfl ⟨Nat.zero_le _, Nat.zero_le _⟩ (fun _ q_ => cvq q_ (ct_M_errs hm 1 (by decide) (by decide))) ?_
        rw [show (-1000000001 : Int32) = -1000000000 - 1 from rfl]
        refine r_ireturn (pc := 35) (ty := .int) dX12_sheet_35 rfl rfl ⟨Nat.zero_le _, Nat.zero_le _⟩ (fun gE hg => ?_)
        exact mR hg (e1 (by rw [kw2, Bool.and_false]) _ _ (q.err (by decide) rfl))
      · skip
        refine r_iload_n (pc := 7) dX12_sheet_7 rfl ?_
        refine r_if_eq (pc := 8) 36 dX12_sheet_8 (by decide) (fun c8 => ?_) (fun c8 => ?_)
        · skip
          exact absurd (Or.inl c8) kw3
        · skip
          refine r_iload_n (pc := 11) dX12_sheet_11 rfl ?_
          refine r_bipush (pc := 12) (v := 8) dX12_sheet_12 (by decide) ?_
          refine r_icmp_eq (pc := 14) 36 dX12_sheet_14 (by decide) (fun c14 => ?_) (fun c14 => ?_)
          · skip
            exact absurd (Or.inr (Or.inl c14)) kw3
          · skip
            refine r_iload_n (pc := 17) dX12_sheet_17 rfl ?_
            refine r_bipush (pc := 18) (v := 16) dX12_sheet_18 (by decide) ?_
            refine r_icmp_eq (pc := 20) 36 dX12_sheet_20 (by decide) (fun c20 => ?_) (fun c20 => ?_)
            · skip
              exact absurd (Or.inr (Or.inr (Or.inl c20))) kw3
            · skip
              refine r_iload_n (pc := 23) dX12_sheet_23 rfl ?_
              refine r_bipush (pc := 24) (v := 32) dX12_sheet_24 (by decide) ?_
              refine r_icmp_eq (pc := 26) 36 dX12_sheet_26 (by decide) (fun c26 => ?_) (fun c26 => ?_)
              · skip
                exact absurd (Or.inr (Or.inr (Or.inr c26))) kw3
              · skip
                refine r_aload_n (pc := 29) dX12_sheet_29 rfl ?_
                refine r_ldc (pc := 30) (v := (-1000000001)) dX12_sheet_30 qX12_61 ?_
                refine r_Vi (pc := 32) (μ' := mX12_errs) dX12_sheet_32 nX12_62 iX12_errs vX12_errs kX12_errs rfl rfl (rr (by decide) rfl) rfl ⟨Nat.zero_le _, Nat.zero_le _⟩ (fun _ q_ => cvq q_ (ct_M_errs hm 1 (by decide) (by decide))) ?_
                rw [show (-1000000001 : Int32) = -1000000000 - 1 from rfl]
                refine r_ireturn (pc := 35) (ty := .int) dX12_sheet_35 rfl rfl ⟨Nat.zero_le _, Nat.zero_le _⟩ (fun gE hg => ?_)
                exact mR hg (e1 (by rw [kw2, Bool.and_false]) _ _ (q.err (by decide) rfl))
  · have kb2 : shB a = false := by cases e : shB a <;> simp_all
    refine r_iload_n (pc := 0) dX12_sheet_0 rfl ?_
    refine r_Sp (pc := 1) (μ' := mX12_isSheet) dX12_sheet_1 nX12_217 sX12_isSheet kX12_isSheet rfl rfl (rr (by decide) rfl) rfl ⟨Nat.zero_le _, Nat.zero_le _⟩ (fun h => ct_M_isSheet h) ?_
    rw [kb2]
    refine r_if_eq (pc := 4) 29 dX12_sheet_4 (by decide) (fun c4 => ?_) (fun c4 => ?_)
    · skip
      refine r_aload_n (pc := 29) dX12_sheet_29 rfl ?_
      refine r_ldc (pc := 30) (v := (-1000000001)) dX12_sheet_30 qX12_61 ?_
      refine r_Vi (pc := 32) (μ' := mX12_errs) dX12_sheet_32 nX12_62 iX12_errs vX12_errs kX12_errs rfl rfl (rr (by decide) rfl) rfl ⟨Nat.zero_le _, Nat.zero_le _⟩ (fun _ q_ => cvq q_ (ct_M_errs hm 1 (by decide) (by decide))) ?_
      rw [show (-1000000001 : Int32) = -1000000000 - 1 from rfl]
      refine r_ireturn (pc := 35) (ty := .int) dX12_sheet_35 rfl rfl ⟨Nat.zero_le _, Nat.zero_le _⟩ (fun gE hg => ?_)
      exact mR hg (e1 (by rw [kb2]; rfl) _ _ (q.err (by decide) rfl))
    · skip
      exact absurd rfl c4
end Msheet
