/-! THE REFERENCE, whole: SEAMS, what is counted and told, images -/
section Mtold
variable {m : Nat} {h : AH} {K K2 : CK} {hs hs2 : List (Nat × Nat)} {tD tL tD2 tL2 : Option (List Int32)} {tp wa tp2 wa2 hd er lD lL : List Int32} {z im z2 : Int32} {k : MK} {bt : Nat → Int32} {sh : Nat → List Int32} {s s2 : Nat → Int32} {A A2 : Nat → Nat → Int32} {Q : Option Value → AH → Prop} {f : Nat → Int32}
set_option maxHeartbeats 4000000 in
theorem cm_seams (hm : m + 14 < h.1) {a : Int32} (q : MG K hs tD tL tp wa z k bt sh hd er im s A) (ok : KOk K) (wb : WB K) (hD : TR 0 tD lD) (hL : TR 1 tL lL) (e1 : wiB a 0 1 = false → ∀ s2 A2, MG K hs tD tL tp wa z k bt sh hd (errL er 1) im s2 A2 → Q (some (.int (-1000000000 - 1))) (mh m h s2 A2)) (hP : wiB a 0 1 = true → ∀ s2 A2, MG K hs tD tL tp wa z k bt sh hd er im s2 A2 → Q (some (.int (if a = 0 then nI (cnR K (drL lD (kHe K)) (kRo K)) else nI (seenN K (drL lD (kHe K)) (ltL lL))))) (mh m h s2 A2)) : CV 50 0 0 mX12_seams m [.int a] (mh m h s A) Q := by
  refine ⟨mV hm, ?_⟩
  refine ct_of (by decide) (fun _ _ => Nat.le_of_ble_eq_true rfl) ?_
  dsimp only [pad, ent]
  have hst : 1 ≤ kSt K ∧ kSt K ≤ 6 := ok.2.1
  have hro : 1 ≤ kRo K ∧ kRo K ≤ 6 := ok.1
  have h36 : kRo K * kSt K ≤ 6 * 6 := Nat.mul_le_mul (by omega) (by omega)
  obtain ⟨S, hS⟩ : ∃ S : Nat → Nat, S = fun c => if smB K (drL lD (kHe K)) c = true then 1 else 0 := ⟨_, rfl⟩
  have hfin : sumN S (kRo K * kSt K) = cnR K (drL lD (kHe K)) (kRo K) := by rw [hS]; exact smB_cnt (by omega)
  have L : wiB a 0 1 = true → ∀ c, c ≤ kRo K * kSt K → ∀ (s1 : Nat → Int32), sFr s s1 → AW (fun _ => True) (rmd 50 0 0) mX12_seams 0 0 20 [some (.ref m), some (.int a), some (.int (nI (sumN S c))), some (.int (nI c))] [] (MP m h s1 A) Q := by
    intro ha
    have h7 := hP ha
    refine up_loop ?_ ?_
    · intro s1 q2
      have q1 := q.scr q2
      refine r_iload_n (pc := 20) dX12_seams_20 rfl ?_
      refine r_aload_n (pc := 21) dX12_seams_21 rfl ?_
      refine r_Vi (pc := 22) (μ' := mX12_cells) dX12_seams_22 nX12_66 iX12_cells vX12_cells kX12_cells rfl rfl (rr (by omega) rfl) rfl ⟨Nat.zero_le _, Nat.zero_le _⟩ (fun _ q_ => cvq q_ (ct_M_cells hm)) ?_
      rw [q.cce]
      refine r_icmp_ge (pc := 25) 42 dX12_seams_25 (by decide) (fun c25 => ?_) (fun c25 => ?_)
      · skip
        refine r_iload_n (pc := 42) dX12_seams_42 rfl ?_
        refine r_if_ne (pc := 43) 50 dX12_seams_43 (by decide) (fun c43 => ?_) (fun c43 => ?_)
        · skip
          rw [if_neg c43] at h7
          refine r_aload_n (pc := 50) dX12_seams_50 rfl ?_
          refine r_Vi (pc := 51) (μ' := mX12_seen) dX12_seams_51 nX12_211 iX12_seen vX12_seen kX12_seen rfl rfl (rr (by omega) rfl) rfl ⟨Nat.zero_le _, Nat.zero_le _⟩ (fun _ q_ => cvq q_ (ct_M_seen hm ok wb (q1.se hD hL))) ?_
          try refine aw_ex fun s4 => aw_ex fun f6 => aw_pr fun q4 => ?_
          refine r_ireturn (pc := 54) (ty := .int) dX12_seams_54 rfl rfl ⟨Nat.zero_le _, Nat.zero_le _⟩ (fun gE hg => ?_)
          first
          | exact mR hg (h7 _ _ (q1.scr6 q4.2))
          | exact mR hg (h7 _ _ q1)
        · skip
          rw [if_pos c43, ← hfin] at h7
          refine r_iload_n (pc := 46) dX12_seams_46 rfl ?_
          refine r_goto (pc := 47) 54 dX12_seams_47 (by decide) ?_
          try refine aw_ex fun s4 => aw_ex fun f6 => aw_pr fun q4 => ?_
          refine r_ireturn (pc := 54) (ty := .int) dX12_seams_54 rfl rfl ⟨Nat.zero_le _, Nat.zero_le _⟩ (fun gE hg => ?_)
          first
          | exact mR hg (h7 _ _ (q1.scr6 q4.2))
          | exact mR hg (h7 _ _ q1)
      · skip
        exact absurd (fa_le.mpr (Int.le_refl _)) c25
    · intro c hc ih s1 q2
      have hT := nI_T (n := c) (by omega)
      have hT2 := nI_T (n := kRo K * kSt K) (by omega)
      have q1 := q.scr q2
      have hb : nI (sumN S c) + b2i (smB K (drL lD (kHe K)) c) = nI (sumN S (c + 1)) := by
        show _ = nI (sumN S c + S c)
        rw [← nI_add, hS]
        dsimp only
        cases smB K (drL lD (kHe K)) c <;> rfl
      refine r_iload_n (pc := 20) dX12_seams_20 rfl ?_
      refine r_aload_n (pc := 21) dX12_seams_21 rfl ?_
      refine r_Vi (pc := 22) (μ' := mX12_cells) dX12_seams_22 nX12_66 iX12_cells vX12_cells kX12_cells rfl rfl (rr (by omega) rfl) rfl ⟨Nat.zero_le _, Nat.zero_le _⟩ (fun _ q_ => cvq q_ (ct_M_cells hm)) ?_
      rw [q.cce]
      refine r_icmp_ge (pc := 25) 42 dX12_seams_25 (by decide) (fun c25 => ?_) (fun c25 => ?_)
      · skip
        exact absurd c25 (fun x => by have := fa_le.mp x; omega)
      · skip
        refine r_iload_n (pc := 28) dX12_seams_28 rfl ?_
        refine r_aload_n (pc := 29) dX12_seams_29 rfl ?_
        refine r_iload_n (pc := 30) dX12_seams_30 rfl ?_
        refine r_Vi (pc := 31) (μ' := mX12_seamAt) dX12_seams_31 nX12_94 iX12_seamAt vX12_seamAt kX12_seamAt rfl rfl (rr (by omega) rfl) rfl ⟨Nat.zero_le _, Nat.zero_le _⟩ (fun _ q_ => cvq q_ (ct_M_seamAt hm ok wb (q1.se hD hL) hc)) ?_
        refine aw_ex fun s3 => aw_pr fun q3 => ?_
        refine r_iadd (pc := 34) dX12_seams_34 ?_
        rw [hb]
        refine r_istore_n (pc := 35) dX12_seams_35 rfl (Nat.le_of_ble_eq_true rfl) rfl ?_
        dsimp only [lset]
        refine r_iinc1 (pc := 36) dX12_seams_36 rfl (Nat.le_of_ble_eq_true rfl) rfl ?_
        dsimp only [lset]
        refine r_goto (pc := 39) 20 dX12_seams_39 (by decide) ?_
        rw [nI_1]
        exact ih s3 (q2.tr q3)
  refine aw_P (P' := MP m h s A) (fun _ q => q) ?_
  refine r_iload_n (pc := 0) dX12_seams_0 rfl ?_
  refine r_iconst (pc := 1) (v := 0) dX12_seams_1 (by decide) ?_
  refine r_iconst (pc := 2) (v := 1) dX12_seams_2 (by decide) ?_
  refine r_Sp (pc := 3) (μ' := mX12_in) dX12_seams_3 nX12_57 sX12_in kX12_in rfl rfl (rr (by omega) rfl) rfl ⟨Nat.zero_le _, Nat.zero_le _⟩ (fun h => ct_M_in h) ?_
  refine r_if_ne (pc := 6) 16 dX12_seams_6 (by decide) (fun c6 => ?_) (fun c6 => ?_)
  · skip
    have k1 := b2i_n0.mp c6
    refine r_iconst (pc := 16) (v := 0) dX12_seams_16 (by decide) ?_
    refine r_istore_n (pc := 17) dX12_seams_17 rfl (Nat.le_of_ble_eq_true rfl) rfl ?_
    dsimp only [lset]
    refine r_iconst (pc := 18) (v := 0) dX12_seams_18 (by decide) ?_
    refine r_istore_n (pc := 19) dX12_seams_19 rfl (Nat.le_of_ble_eq_true rfl) rfl ?_
    dsimp only [lset]
    exact L k1 0 (Nat.zero_le _) s (sFr.rf s)
  · skip
    have k1 := b2i_0.mp c6
    refine r_aload_n (pc := 9) dX12_seams_9 rfl ?_
    refine r_ldc (pc := 10) (v := (-1000000001)) dX12_seams_10 qX12_61 ?_
    refine r_Vi (pc := 12) (μ' := mX12_errs) dX12_seams_12 nX12_62 iX12_errs vX12_errs kX12_errs rfl rfl (rr (by omega) rfl) rfl ⟨Nat.zero_le _, Nat.zero_le _⟩ (fun _ q_ => cvq q_ (ct_M_errs hm 1 (by decide) (by decide))) ?_
    rw [show (-1000000001 : Int32) = -1000000000 - 1 from rfl]
    refine r_ireturn (pc := 15) (ty := .int) dX12_seams_15 rfl rfl ⟨Nat.zero_le _, Nat.zero_le _⟩ (fun gE hg => ?_)
    exact mR hg (e1 k1 _ _ (q.err (by decide) rfl))
set_option maxHeartbeats 4000000 in
theorem cm_seed (hm : m + 14 < h.1) {a : Int32} (q : MG K hs tD tL tp wa z k bt sh hd er im s A) (ok : KOk K) (hP : ∀ s2 A2, MG K hs tD tL tp wa a k bt sh hd er im s2 A2 → Q (some (.int z)) (mh m h s2 A2)) : CV 4 0 0 mX12_seed m [.int a] (mh m h s A) Q := by
  refine ⟨mV hm, ?_⟩
  refine ct_of (by decide) (fun _ _ => Nat.le_of_ble_eq_true rfl) ?_
  dsimp only [pad, ent]
  refine aw_P (P' := MP m h s (upA A 0 (A 0))) (fun _ q => by rw [upA_id]; exact q) ?_
  refine r_aload_n (pc := 0) dX12_seed_0 rfl ?_
  refine r_getf (pc := 1) (k := 0) dX12_seed_1 hX12 eX12 (by decide) fX12_7 (fun _ q => mo hm q) rfl ?_
  refine r_bipush (pc := 4) (v := 7) dX12_seed_4 (by decide) ?_
  refine r_rl (pc := 6) (j := 7) hm dX12_seed_6 rfl (by decide) ?_
  rw [show A 0 7 = z from q.rr.1]
  refine r_istore_n (pc := 7) dX12_seed_7 rfl (Nat.le_of_ble_eq_true rfl) rfl ?_
  dsimp only [lset]
  refine r_aload_n (pc := 8) dX12_seed_8 rfl ?_
  refine r_getf (pc := 9) (k := 0) dX12_seed_9 hX12 eX12 (by decide) fX12_7 (fun _ q => mo hm q) rfl ?_
  refine r_bipush (pc := 12) (v := 7) dX12_seed_12 (by decide) ?_
  refine r_iload_n (pc := 14) dX12_seed_14 rfl ?_
  refine r_rs (pc := 15) (j := 7) hm dX12_seed_15 rfl (by decide) ?_
  refine r_iload_n (pc := 16) dX12_seed_16 rfl ?_
  refine r_ireturn (pc := 17) (ty := .int) dX12_seed_17 rfl rfl ⟨Nat.zero_le _, Nat.zero_le _⟩ (fun gE hg => ?_)
  exact mR hg (hP _ _ (q.row (RMk_z ok q.rk) (RMr_z q.rr)))
theorem RMr_wa {f f2 : Nat → Int32} (q : RMr hs tD tL tp wa z f) (hw : RMl wa2 10 147 f2 ∧ wa2.length ≤ 20) (ho : ∀ j, RJ j → j ≠ 10 → ¬ (147 ≤ j ∧ j < 167) → f2 j = f j) : RMr hs tD tL tp wa2 z f2 := by
  obtain ⟨q1, ⟨q2, q3⟩, q4, q5, ⟨q6, q7⟩, q8, q9⟩ := q
  have o : ∀ j, RJ j → j ≠ 10 → ¬ (147 ≤ j ∧ j < 167) → f2 j = f j := ho
  refine ⟨(o 7 (by unfold RJ; omega) (by omega) (by omega)).trans q1, ⟨⟨(o 8 (by unfold RJ; omega) (by omega) (by omega)).trans q2.1, fun i hi => ⟨(o _ (by unfold RJ; omega) (by omega) (by omega)).trans (q2.2 i hi).1, (o _ (by unfold RJ; omega) (by omega) (by omega)).trans (q2.2 i hi).2⟩⟩, q3⟩, ?_, ?_, ⟨⟨(o 9 (by unfold RJ; omega) (by omega) (by omega)).trans q6.1, fun j hj => (o _ (by unfold RJ; omega) (by omega) (by omega)).trans (q6.2 j hj)⟩, q7⟩, hw⟩
  · rw [o 11 (by unfold RJ; omega) (by omega) (by omega)]; exact q4.ext fun j hj => o _ (by unfold RJ; omega) (by omega) (by omega)
  · rw [o 12 (by unfold RJ; omega) (by omega) (by omega)]; exact q5.ext fun j hj => o _ (by unfold RJ; omega) (by omega) (by omega)
set_option maxHeartbeats 4000000 in
theorem cm_tell (hm : m + 14 < h.1) {a : Int32} (q : MG K hs tD tL tp wa z k bt sh hd er im s A) (ok : KOk K) (e4 : ¬ wa.length < 20 → ∀ s2 A2, MG K hs tD tL tp wa z k bt sh hd (errL er 4) im s2 A2 → Q (some (.int (-1000000000 - 4))) (mh m h s2 A2)) (hP : wa.length < 20 → ∀ s2 A2, MG K hs tD tL tp (wa ++ [a]) z k bt sh hd er im s2 A2 → Q (some (.int (nI (wa.length + 1)))) (mh m h s2 A2)) : CV 4 0 0 mX12_tell m [.int a] (mh m h s A) Q := by
  refine ⟨mV hm, ?_⟩
  refine ct_of (by decide) (fun _ _ => Nat.le_of_ble_eq_true rfl) ?_
  dsimp only [pad, ent]
  refine aw_P (P' := MP m h s A) (fun _ q => q) ?_
  have h10 := q.rr.2.2.2.2.2.1.1
  have hl := q.rr.2.2.2.2.2.2
  have hT := nI_T (n := wa.length) (by omega)
  refine r_aload_n (pc := 0) dX12_tell_0 rfl ?_
  refine r_getf (pc := 1) (k := 0) dX12_tell_1 hX12 eX12 (by decide) fX12_7 (fun _ q => mo hm q) rfl ?_
  refine r_bipush (pc := 4) (v := 10) dX12_tell_4 (by decide) ?_
  refine r_ml (pc := 6) (i := 0) (j := 10) hm dX12_tell_6 (by decide) rfl (by decide) ?_
  rw [h10]
  refine r_bipush (pc := 7) (v := 20) dX12_tell_7 (by decide) ?_
  refine r_icmp_ne (pc := 9) 19 dX12_tell_9 (by decide) (fun c9 => ?_) (fun c9 => ?_)
  · skip
    have k1 : wa.length < 20 := by
      have : ¬ wa.length = 20 := fun x => c9 (by rw [x]; rfl)
      omega
    refine aw_P (P' := MP m h s (upA A 0 (A 0))) (fun _ q => by rw [upA_id]; exact q) ?_
    refine r_aload_n (pc := 19) dX12_tell_19 rfl ?_
    refine r_getf (pc := 20) (k := 0) dX12_tell_20 hX12 eX12 (by decide) fX12_7 (fun _ q => mo hm q) rfl ?_
    refine r_sipush (pc := 23) (v := 147) dX12_tell_23 (by decide) ?_
    refine r_aload_n (pc := 26) dX12_tell_26 rfl ?_
    refine r_getf (pc := 27) (k := 0) dX12_tell_27 hX12 eX12 (by decide) fX12_7 (fun _ q => mo hm q) rfl ?_
    refine r_bipush (pc := 30) (v := 10) dX12_tell_30 (by decide) ?_
    refine r_rl (pc := 32) (j := 10) hm dX12_tell_32 rfl (by decide) ?_
    rw [h10]
    refine r_iadd (pc := 33) dX12_tell_33 ?_
    rw [show (147 : Int32) + nI wa.length = nI (147 + wa.length) from nI_add 147 _]
    refine r_iload_n (pc := 34) dX12_tell_34 rfl ?_
    refine r_rs (pc := 35) (j := (147 + wa.length)) hm dX12_tell_35 (nI_T (by omega)) (show (147 + wa.length) < 267 by omega) ?_
    refine r_aload_n (pc := 36) dX12_tell_36 rfl ?_
    refine r_getf (pc := 37) (k := 0) dX12_tell_37 hX12 eX12 (by decide) fX12_7 (fun _ q => mo hm q) rfl ?_
    refine r_bipush (pc := 40) (v := 10) dX12_tell_40 (by decide) ?_
    refine r_dup2 (pc := 42) dX12_tell_42 rfl rfl ?_
    refine r_rl (pc := 43) (j := 10) hm dX12_tell_43 rfl (by decide) ?_
    rw [upd_n (by omega), h10]
    refine r_iconst (pc := 44) (v := 1) dX12_tell_44 (by decide) ?_
    refine r_iadd (pc := 45) dX12_tell_45 ?_
    rw [nI_1]
    refine r_rs (pc := 46) (j := 10) hm dX12_tell_46 rfl (by decide) ?_
    refine r_aload_n (pc := 47) dX12_tell_47 rfl ?_
    refine r_getf (pc := 48) (k := 0) dX12_tell_48 hX12 eX12 (by decide) fX12_7 (fun _ q => mo hm q) rfl ?_
    refine r_bipush (pc := 51) (v := 10) dX12_tell_51 (by decide) ?_
    refine r_rl (pc := 53) (j := 10) hm dX12_tell_53 rfl (by decide) ?_
    rw [upd_s]
    refine r_ireturn (pc := 54) (ty := .int) dX12_tell_54 rfl rfl ⟨Nat.zero_le _, Nat.zero_le _⟩ (fun gE hg => ?_)
    refine mR hg (hP k1 _ _ (q.row (q.rk.ext2 ok fun j hj => ?_) (RMr_wa q.rr ⟨⟨by rw [upd_s, List.length_append, List.length_singleton], fun j hj => ?_⟩, by rw [List.length_append, List.length_singleton]; omega⟩ (fun j hj h1 h2 => ?_))))
    · rw [upd_n (by omega), upd_n (by omega)]
    · rw [List.length_append, List.length_singleton] at hj
      rw [getD_app hj, upd_n (by omega)]
      by_cases e : j = wa.length
      · rw [if_pos e, e, upd_s]
      · rw [if_neg e, upd_n (by omega)]; exact q.rr.2.2.2.2.2.1.2 j (by omega)
    · rw [upd_n h1, upd_n (by omega)]
  · skip
    have k1 : ¬ wa.length < 20 := by have := fa_eq.mp c9; rw [hT, show (20 : Int32).toInt = 20 from rfl] at this; omega
    refine r_aload_n (pc := 12) dX12_tell_12 rfl ?_
    refine r_ldc (pc := 13) (v := (-1000000004)) dX12_tell_13 qX12_97 ?_
    refine r_Vi (pc := 15) (μ' := mX12_errs) dX12_tell_15 nX12_62 iX12_errs vX12_errs kX12_errs rfl rfl (rr (by decide) rfl) rfl ⟨Nat.zero_le _, Nat.zero_le _⟩ (fun _ q_ => cvq q_ (ct_M_errs hm 4 (by decide) (by decide))) ?_
    rw [show (-1000000004 : Int32) = -1000000000 - 4 from rfl]
    refine r_ireturn (pc := 18) (ty := .int) dX12_tell_18 rfl rfl ⟨Nat.zero_le _, Nat.zero_le _⟩ (fun gE hg => ?_)
    exact mR hg (e4 k1 _ _ (q.err (by decide) rfl))
set_option maxHeartbeats 4000000 in
theorem cm_told (hm : m + 14 < h.1) {a : Int32} (q : MG K hs tD tL tp wa z k bt sh hd er im s A) (e1 : wiB a 1 5 = false → ∀ s2 A2, MG K hs tD tL tp wa z k bt sh hd (errL er 1) im s2 A2 → Q (some (.int (-1000000000 - 1))) (mh m h s2 A2)) (hP : wiB a 1 5 = true → ∀ s2 A2, MG K hs tD tL tp wa z k bt sh hd er im s2 A2 → Q (some (.int (atL er a))) (mh m h s2 A2)) : CV 4 0 0 mX12_told m [.int a] (mh m h s A) Q := by
  refine ⟨mV hm, ?_⟩
  refine ct_of (by decide) (fun _ _ => Nat.le_of_ble_eq_true rfl) ?_
  dsimp only [pad, ent]
  refine aw_P (P' := MP m h s A) (fun _ q => q) ?_
  refine r_iload_n (pc := 0) dX12_told_0 rfl ?_
  refine r_iconst (pc := 1) (v := 1) dX12_told_1 (by decide) ?_
  refine r_iconst (pc := 2) (v := 5) dX12_told_2 (by decide) ?_
  refine r_Sp (pc := 3) (μ' := mX12_in) dX12_told_3 nX12_57 sX12_in kX12_in rfl rfl (rr (by decide) rfl) rfl ⟨Nat.zero_le _, Nat.zero_le _⟩ (fun h => ct_M_in h) ?_
  refine r_if_eq (pc := 6) 18 dX12_told_6 (by decide) (fun c6 => ?_) (fun c6 => ?_)
  · skip
    have k1 := b2i_0.mp c6
    refine r_aload_n (pc := 18) dX12_told_18 rfl ?_
    refine r_ldc (pc := 19) (v := (-1000000001)) dX12_told_19 qX12_61 ?_
    refine r_Vi (pc := 21) (μ' := mX12_errs) dX12_told_21 nX12_62 iX12_errs vX12_errs kX12_errs rfl rfl (rr (by decide) rfl) rfl ⟨Nat.zero_le _, Nat.zero_le _⟩ (fun _ q_ => cvq q_ (ct_M_errs hm 1 (by decide) (by decide))) ?_
    rw [show (-1000000001 : Int32) = -1000000000 - 1 from rfl]
    refine r_ireturn (pc := 24) (ty := .int) dX12_told_24 rfl rfl ⟨Nat.zero_le _, Nat.zero_le _⟩ (fun gE hg => ?_)
    first
    | exact mR hg (hP k1 _ _ q)
    | exact mR hg (e1 k1 _ _ (q.err (by decide) rfl))
  · skip
    have k1 := b2i_n0.mp c6
    have w1 := wi_t k1
    rw [t1, show (5 : Int32).toInt = 5 from rfl] at w1
    obtain ⟨n, hn, h1⟩ : ∃ n, a = nI n ∧ n < 6 := ⟨a.toInt.toNat, (nI_tn (by omega) (by omega)).symm, by omega⟩
    refine r_aload_n (pc := 9) dX12_told_9 rfl ?_
    refine r_getf (pc := 10) (k := 6) dX12_told_10 hX12 eX12 (by decide) fX12_22 (fun _ q => mo hm q) rfl ?_
    refine r_iload_n (pc := 13) dX12_told_13 rfl ?_
    rw [hn]
    refine r_ml (pc := 14) (i := 4) (j := n) hm dX12_told_14 (by decide) (nI_T (by omega)) (show n < 6 by omega) ?_
    rw [q.2.2.2.1.2 n h1, show er.getD n 0 = atL er a by rw [hn, atL_nI (by omega)]]
    refine r_goto (pc := 15) 24 dX12_told_15 (by decide) ?_
    refine r_ireturn (pc := 24) (ty := .int) dX12_told_24 rfl rfl ⟨Nat.zero_le _, Nat.zero_le _⟩ (fun gE hg => ?_)
    first
    | exact mR hg (hP k1 _ _ q)
    | exact mR hg (e1 k1 _ _ (q.err (by decide) rfl))
theorem wi_hasL {l : List Int32} {a : Int32} (h : l.length ≤ 4000) : wiB a 0 (nI l.length - 1) = hasL l a := by rw [wi_m1 h]; rfl
set_option maxHeartbeats 4000000 in
theorem cm_trace (hm : m + 14 < h.1) {a : Int32} (q : MG K hs tD tL tp wa z k bt sh hd er im s A) (e2 : hasL hd a = false → ∀ s2 A2, MG K hs tD tL tp wa z k bt sh hd (errL er 2) im s2 A2 → Q (some (.int (-1000000000 - 2))) (mh m h s2 A2)) (hP : hasL hd a = true → ∀ s2 A2, MG K hs tD tL tp wa z k bt sh hd er im s2 A2 → Q (some (.int (atL hd a))) (mh m h s2 A2)) : CV 4 0 0 mX12_trace m [.int a] (mh m h s A) Q := by
  refine ⟨mV hm, ?_⟩
  refine ct_of (by decide) (fun _ _ => Nat.le_of_ble_eq_true rfl) ?_
  dsimp only [pad, ent]
  refine aw_P (P' := MP m h s A) (fun _ q => q) ?_
  obtain ⟨g1, g2, g3⟩ := q.2.2.2.2.2
  refine r_iload_n (pc := 0) dX12_trace_0 rfl ?_
  refine r_iconst (pc := 1) (v := 0) dX12_trace_1 (by decide) ?_
  refine r_aload_n (pc := 2) dX12_trace_2 rfl ?_
  refine r_getf (pc := 3) (k := 26) dX12_trace_3 hX12 eX12 (by decide) fX12_244 (fun _ q => mo hm q) rfl ?_
  rw [g1]
  refine r_iconst (pc := 6) (v := 1) dX12_trace_6 (by decide) ?_
  refine r_isub (pc := 7) dX12_trace_7 ?_
  refine r_Sp (pc := 8) (μ' := mX12_in) dX12_trace_8 nX12_57 sX12_in kX12_in rfl rfl (rr (by decide) rfl) rfl ⟨Nat.zero_le _, Nat.zero_le _⟩ (fun h => ct_M_in h) ?_
  rw [wi_hasL (by omega)]
  refine r_if_eq (pc := 11) 23 dX12_trace_11 (by decide) (fun c11 => ?_) (fun c11 => ?_)
  · skip
    have k1 := b2i_0.mp c11
    refine r_aload_n (pc := 23) dX12_trace_23 rfl ?_
    refine r_ldc (pc := 24) (v := (-1000000002)) dX12_trace_24 qX12_220 ?_
    refine r_Vi (pc := 26) (μ' := mX12_errs) dX12_trace_26 nX12_62 iX12_errs vX12_errs kX12_errs rfl rfl (rr (by decide) rfl) rfl ⟨Nat.zero_le _, Nat.zero_le _⟩ (fun _ q_ => cvq q_ (ct_M_errs hm 2 (by decide) (by decide))) ?_
    rw [show (-1000000002 : Int32) = -1000000000 - 2 from rfl]
    refine r_ireturn (pc := 29) (ty := .int) dX12_trace_29 rfl rfl ⟨Nat.zero_le _, Nat.zero_le _⟩ (fun gE hg => ?_)
    first
    | exact mR hg (hP k1 _ _ q)
    | exact mR hg (e2 k1 _ _ (q.err (by decide) rfl))
  · skip
    have k1 := b2i_n0.mp c11
    have w1 := of_decide_eq_true k1
    obtain ⟨n, hn, h1⟩ : ∃ n, a = nI n ∧ n < hd.length := ⟨a.toInt.toNat, (nI_tn (by omega) (by omega)).symm, by omega⟩
    refine r_aload_n (pc := 14) dX12_trace_14 rfl ?_
    refine r_getf (pc := 15) (k := 25) dX12_trace_15 hX12 eX12 (by decide) fX12_49 (fun _ q => mo hm q) rfl ?_
    refine r_iload_n (pc := 18) dX12_trace_18 rfl ?_
    rw [hn]
    refine r_ml (pc := 19) (i := 13) (j := n) hm dX12_trace_19 (by decide) (nI_T (by omega)) (show n < 40 by omega) ?_
    rw [g3 n h1, show hd.getD n 0 = atL hd a by rw [hn, atL_nI (by omega)]]
    refine r_goto (pc := 20) 29 dX12_trace_20 (by decide) ?_
    refine r_ireturn (pc := 29) (ty := .int) dX12_trace_29 rfl rfl ⟨Nat.zero_le _, Nat.zero_le _⟩ (fun gE hg => ?_)
    first
    | exact mR hg (hP k1 _ _ q)
    | exact mR hg (e2 k1 _ _ (q.err (by decide) rfl))
theorem wh_m1 {x : Int} (h : -1 ≤ x ∧ x ≤ 30000) : (0 ≤ iI x ↔ 0 ≤ x) ∧ (iI x = -1 ↔ ¬ 0 ≤ x) := by
  have hT := iI_T (x := x) (by omega) (by omega)
  constructor
  · rw [fa_le, hT, t0]
  · rw [fa_eq, hT, show (-1 : Int32).toInt = -1 from rfl]; omega
set_option maxHeartbeats 4000000 in
theorem ct_M_rolledMany (hm : m + 14 < h.1) (ok : KOk K) (wb : WB K) (rk : RMk K (A 0)) : CV 3 0 0 mX12_rolledMany m [] (mh m h s A) (fun v g => v = some (.int (nI (cntL (tab K.1 K.2.1 fun r s => iI (K.2.2.2.2.2.2.2.2.1 r s)) (kRo K * kSt K)))) ∧ MP m h s A g) := by
  refine ⟨mV hm, ?_⟩
  refine ct_of (by decide) (fun _ _ => Nat.le_of_ble_eq_true rfl) ?_
  dsimp only [pad, ent]
  have hst : 1 ≤ kSt K ∧ kSt K ≤ 6 := ok.2.1
  have hro : 1 ≤ kRo K ∧ kRo K ≤ 6 := ok.1
  have h36 : kRo K * kSt K ≤ 6 * 6 := Nat.mul_le_mul (by omega) (by omega)
  obtain ⟨l, hl⟩ : ∃ l, l = tab K.1 K.2.1 fun r s => iI (K.2.2.2.2.2.2.2.2.1 r s) := ⟨_, rfl⟩
  have hg : ∀ c, c < kRo K * kSt K → l.getD c 0 = iI (kW K (c / kSt K) (c % kSt K)) := fun c hc => by rw [hl]; exact tab_get hc
  rw [← hl]
  have hce : A 0 0 * A 0 1 = nI (kRo K * kSt K) := by rw [rk.1, rk.2.1, pk_mul]
  have L : ∀ c, c ≤ kRo K * kSt K → AW (fun _ => True) (rmd 3 0 0) mX12_rolledMany 0 0 4 [some (.ref m), some (.int (nI (cntL l c))), some (.int (nI c))] [] (MP m h s A) (fun v g => v = some (.int (nI (cntL l (kRo K * kSt K)))) ∧ MP m h s A g) := by
    refine up_loop ?_ ?_
    · skip
      refine r_iload_n (pc := 4) dX12_rolledMany_4 rfl ?_
      refine r_aload_n (pc := 5) dX12_rolledMany_5 rfl ?_
      refine r_Vi (pc := 6) (μ' := mX12_cells) dX12_rolledMany_6 nX12_66 iX12_cells vX12_cells kX12_cells rfl rfl (rr (by decide) rfl) rfl ⟨Nat.zero_le _, Nat.zero_le _⟩ (fun _ q_ => cvq q_ (ct_M_cells hm)) ?_
      rw [hce]
      refine r_icmp_ge (pc := 9) 34 dX12_rolledMany_9 (by decide) (fun c9 => ?_) (fun c9 => ?_)
      · skip
        refine r_iload_n (pc := 34) dX12_rolledMany_34 rfl ?_
        refine r_ireturn (pc := 35) (ty := .int) dX12_rolledMany_35 rfl rfl ⟨Nat.zero_le _, Nat.zero_le _⟩ (fun gE hg => ?_)
        exact ⟨rfl, hg⟩
      · skip
        exact absurd (fa_le.mpr (Int.le_refl _)) c9
    · intro c hc ih
      have hT := nI_T (n := c) (by omega)
      have hT2 := nI_T (n := kRo K * kSt K) (by omega)
      have cc := (rk.cell hc (by omega)).1
      obtain ⟨w1, w2⟩ := wh_m1 (wb (c / kSt K) (c % kSt K))
      have ec : cntL l (c + 1) = cntL l c + (if l.getD c 0 = -1 then 0 else 1) := rfl
      rw [hg c hc] at ec
      rw [ec] at ih
      refine r_iload_n (pc := 4) dX12_rolledMany_4 rfl ?_
      refine r_aload_n (pc := 5) dX12_rolledMany_5 rfl ?_
      refine r_Vi (pc := 6) (μ' := mX12_cells) dX12_rolledMany_6 nX12_66 iX12_cells vX12_cells kX12_cells rfl rfl (rr (by decide) rfl) rfl ⟨Nat.zero_le _, Nat.zero_le _⟩ (fun _ q_ => cvq q_ (ct_M_cells hm)) ?_
      rw [hce]
      refine r_icmp_ge (pc := 9) 34 dX12_rolledMany_9 (by decide) (fun c9 => ?_) (fun c9 => ?_)
      · skip
        exact absurd c9 (fun x => by have := fa_le.mp x; omega)
      · skip
        refine r_iload_n (pc := 12) dX12_rolledMany_12 rfl ?_
        refine r_aload_n (pc := 13) dX12_rolledMany_13 rfl ?_
        refine r_iload_n (pc := 14) dX12_rolledMany_14 rfl ?_
        refine r_Vi (pc := 15) (μ' := mX12_whenOf) dX12_rolledMany_15 nX12_81 iX12_whenOf vX12_whenOf kX12_whenOf rfl rfl (rr (by decide) rfl) rfl ⟨Nat.zero_le _, Nat.zero_le _⟩ (fun _ q_ => cvq q_ (ct_M_whenOf hm (show c < 36 by omega))) ?_
        rw [cc]
        refine r_if_lt (pc := 18) 25 dX12_rolledMany_18 (by decide) (fun c18 => ?_) (fun c18 => ?_)
        · skip
          have k1 : iI (kW K (c / kSt K) (c % kSt K)) = -1 := w2.mpr (fun x => by have h1 := fa_lt.mp c18; have h2 := fa_le.mp (w1.mpr x); omega)
          rw [if_pos k1] at ih
          refine r_iconst (pc := 25) (v := 0) dX12_rolledMany_25 (by decide) ?_
          refine r_iadd (pc := 26) dX12_rolledMany_26 ?_
          refine r_istore_n (pc := 27) dX12_rolledMany_27 rfl (Nat.le_of_ble_eq_true rfl) rfl ?_
          dsimp only [lset]
          refine r_iinc1 (pc := 28) dX12_rolledMany_28 rfl (Nat.le_of_ble_eq_true rfl) rfl ?_
          dsimp only [lset]
          refine r_goto (pc := 31) 4 dX12_rolledMany_31 (by decide) ?_
          rw [nI_1]
          first
          | (rw [show (1 : Int32) = nI 1 from rfl, nI_add]; exact ih)
          | (rw [show (0 : Int32) = nI 0 from rfl, nI_add]; exact ih)
        · skip
          have k1 : ¬ iI (kW K (c / kSt K) (c % kSt K)) = -1 := fun x => c18 (by rw [x]; decide)
          rw [if_neg k1] at ih
          refine r_iconst (pc := 21) (v := 1) dX12_rolledMany_21 (by decide) ?_
          refine r_goto (pc := 22) 26 dX12_rolledMany_22 (by decide) ?_
          refine r_iadd (pc := 26) dX12_rolledMany_26 ?_
          refine r_istore_n (pc := 27) dX12_rolledMany_27 rfl (Nat.le_of_ble_eq_true rfl) rfl ?_
          dsimp only [lset]
          refine r_iinc1 (pc := 28) dX12_rolledMany_28 rfl (Nat.le_of_ble_eq_true rfl) rfl ?_
          dsimp only [lset]
          refine r_goto (pc := 31) 4 dX12_rolledMany_31 (by decide) ?_
          rw [nI_1]
          first
          | (rw [show (1 : Int32) = nI 1 from rfl, nI_add]; exact ih)
          | (rw [show (0 : Int32) = nI 0 from rfl, nI_add]; exact ih)
  refine aw_P (P' := MP m h s A) (fun _ q => q) ?_
  refine r_iconst (pc := 0) (v := 0) dX12_rolledMany_0 (by decide) ?_
  refine r_istore_n (pc := 1) dX12_rolledMany_1 rfl (Nat.le_of_ble_eq_true rfl) rfl ?_
  dsimp only [lset]
  refine r_iconst (pc := 2) (v := 0) dX12_rolledMany_2 (by decide) ?_
  refine r_istore_n (pc := 3) dX12_rolledMany_3 rfl (Nat.le_of_ble_eq_true rfl) rfl ?_
  dsimp only [lset]
  exact L 0 (Nat.zero_le _)
set_option maxHeartbeats 4000000 in
theorem cm_count (hm : m + 14 < h.1) {a : Int32} (q : MG K hs tD tL tp wa z k bt sh hd er im s A) (ok : KOk K) (wb : WB K) (e1 : wiB a 0 11 = false → ∀ s2 A2, MG K hs tD tL tp wa z k bt sh hd (errL er 1) im s2 A2 → Q (some (.int (-1000000000 - 1))) (mh m h s2 A2)) (hP : wiB a 0 11 = true → ∀ s2 A2, MG K hs tD tL tp wa z k bt sh hd er im s2 A2 → Q (some (.int (cnI K hs tp wa hd z a))) (mh m h s2 A2)) : CV 4 0 0 mX12_count m [.int a] (mh m h s A) Q := by
  refine ⟨mV hm, ?_⟩
  refine ct_of (by decide) (fun _ _ => Nat.le_of_ble_eq_true rfl) ?_
  dsimp only [pad, ent]
  refine aw_P (P' := MP m h s A) (fun _ q => q) ?_
  obtain ⟨r0, r1, r2, r3, r4, r5, r6, r7⟩ := id q.rk
  obtain ⟨u7, ⟨⟨u8, -⟩, -⟩, -, -, ⟨⟨u9, -⟩, -⟩, ⟨⟨u10, -⟩, -⟩⟩ := id q.rr
  refine r_iload_n (pc := 0) dX12_count_0 rfl ?_
  by_cases s1_0 : a = 0
  · skip
    refine r_tableAt (pc := 1) 64 0 dX12_count_1 (by rw [s1_0]; decide) (by decide) rfl (by decide) ?_
    subst s1_0
    have h7 := hP (by decide)
    refine r_aload_n (pc := 64) dX12_count_64 rfl ?_
    refine r_Vi (pc := 65) (μ' := mX12_cells) dX12_count_65 nX12_66 iX12_cells vX12_cells kX12_cells rfl rfl (rr (by decide) rfl) rfl ⟨Nat.zero_le _, Nat.zero_le _⟩ (fun _ q_ => cvq q_ (ct_M_cells hm)) ?_
    rw [q.cce]
    refine r_ireturn (pc := 68) (ty := .int) dX12_count_68 rfl rfl ⟨Nat.zero_le _, Nat.zero_le _⟩ (fun gE hg => ?_)
    exact mR hg (h7 _ _ q)
  by_cases s1_1 : a = 1
  · skip
    refine r_tableAt (pc := 1) 69 1 dX12_count_1 (by rw [s1_1]; decide) (by decide) rfl (by decide) ?_
    subst s1_1
    have h7 := hP (by decide)
    refine r_aload_n (pc := 69) dX12_count_69 rfl ?_
    refine r_getf (pc := 70) (k := 0) dX12_count_70 hX12 eX12 (by decide) fX12_7 (fun _ q => mo hm q) rfl ?_
    refine r_bipush (pc := 73) (v := 8) dX12_count_73 (by decide) ?_
    refine r_ml (pc := 75) (i := 0) (j := 8) hm dX12_count_75 (by decide) rfl (by decide) ?_
    rw [u8]
    refine r_ireturn (pc := 76) (ty := .int) dX12_count_76 rfl rfl ⟨Nat.zero_le _, Nat.zero_le _⟩ (fun gE hg => ?_)
    exact mR hg (h7 _ _ q)
  by_cases s1_2 : a = 2
  · skip
    refine r_tableAt (pc := 1) 77 2 dX12_count_1 (by rw [s1_2]; decide) (by decide) rfl (by decide) ?_
    subst s1_2
    have h7 := hP (by decide)
    refine r_aload_n (pc := 77) dX12_count_77 rfl ?_
    refine r_getf (pc := 78) (k := 0) dX12_count_78 hX12 eX12 (by decide) fX12_7 (fun _ q => mo hm q) rfl ?_
    refine r_iconst (pc := 81) (v := 2) dX12_count_81 (by decide) ?_
    refine r_ml (pc := 82) (i := 0) (j := 2) hm dX12_count_82 (by decide) rfl (by decide) ?_
    rw [r2]
    refine r_ireturn (pc := 83) (ty := .int) dX12_count_83 rfl rfl ⟨Nat.zero_le _, Nat.zero_le _⟩ (fun gE hg => ?_)
    exact mR hg (h7 _ _ q)
  by_cases s1_3 : a = 3
  · skip
    refine r_tableAt (pc := 1) 84 3 dX12_count_1 (by rw [s1_3]; decide) (by decide) rfl (by decide) ?_
    subst s1_3
    have h7 := hP (by decide)
    refine r_aload_n (pc := 84) dX12_count_84 rfl ?_
    refine r_Vi (pc := 85) (μ' := mX12_rolledMany) dX12_count_85 nX12_281 iX12_rolledMany vX12_rolledMany kX12_rolledMany rfl rfl (rr (by decide) rfl) rfl ⟨Nat.zero_le _, Nat.zero_le _⟩ (fun _ q_ => cvq q_ (ct_M_rolledMany hm ok wb q.rk)) ?_
    refine r_ireturn (pc := 88) (ty := .int) dX12_count_88 rfl rfl ⟨Nat.zero_le _, Nat.zero_le _⟩ (fun gE hg => ?_)
    exact mR hg (h7 _ _ q)
  by_cases s1_4 : a = 4
  · skip
    refine r_tableAt (pc := 1) 89 4 dX12_count_1 (by rw [s1_4]; decide) (by decide) rfl (by decide) ?_
    subst s1_4
    have h7 := hP (by decide)
    refine r_aload_n (pc := 89) dX12_count_89 rfl ?_
    refine r_getf (pc := 90) (k := 0) dX12_count_90 hX12 eX12 (by decide) fX12_7 (fun _ q => mo hm q) rfl ?_
    refine r_iconst (pc := 93) (v := 4) dX12_count_93 (by decide) ?_
    refine r_ml (pc := 94) (i := 0) (j := 4) hm dX12_count_94 (by decide) rfl (by decide) ?_
    rw [r4]
    refine r_ireturn (pc := 95) (ty := .int) dX12_count_95 rfl rfl ⟨Nat.zero_le _, Nat.zero_le _⟩ (fun gE hg => ?_)
    exact mR hg (h7 _ _ q)
  by_cases s1_5 : a = 5
  · skip
    refine r_tableAt (pc := 1) 96 5 dX12_count_1 (by rw [s1_5]; decide) (by decide) rfl (by decide) ?_
    subst s1_5
    have h7 := hP (by decide)
    refine r_aload_n (pc := 96) dX12_count_96 rfl ?_
    refine r_getf (pc := 97) (k := 0) dX12_count_97 hX12 eX12 (by decide) fX12_7 (fun _ q => mo hm q) rfl ?_
    refine r_iconst (pc := 100) (v := 5) dX12_count_100 (by decide) ?_
    refine r_ml (pc := 101) (i := 0) (j := 5) hm dX12_count_101 (by decide) rfl (by decide) ?_
    rw [r5]
    refine r_ireturn (pc := 102) (ty := .int) dX12_count_102 rfl rfl ⟨Nat.zero_le _, Nat.zero_le _⟩ (fun gE hg => ?_)
    exact mR hg (h7 _ _ q)
  by_cases s1_6 : a = 6
  · skip
    refine r_tableAt (pc := 1) 103 6 dX12_count_1 (by rw [s1_6]; decide) (by decide) rfl (by decide) ?_
    subst s1_6
    have h7 := hP (by decide)
    refine r_aload_n (pc := 103) dX12_count_103 rfl ?_
    refine r_getf (pc := 104) (k := 0) dX12_count_104 hX12 eX12 (by decide) fX12_7 (fun _ q => mo hm q) rfl ?_
    refine r_bipush (pc := 107) (v := 6) dX12_count_107 (by decide) ?_
    refine r_ml (pc := 109) (i := 0) (j := 6) hm dX12_count_109 (by decide) rfl (by decide) ?_
    rw [r6]
    refine r_ireturn (pc := 110) (ty := .int) dX12_count_110 rfl rfl ⟨Nat.zero_le _, Nat.zero_le _⟩ (fun gE hg => ?_)
    exact mR hg (h7 _ _ q)
  by_cases s1_7 : a = 7
  · skip
    refine r_tableAt (pc := 1) 111 7 dX12_count_1 (by rw [s1_7]; decide) (by decide) rfl (by decide) ?_
    subst s1_7
    have h7 := hP (by decide)
    refine r_aload_n (pc := 111) dX12_count_111 rfl ?_
    refine r_getf (pc := 112) (k := 0) dX12_count_112 hX12 eX12 (by decide) fX12_7 (fun _ q => mo hm q) rfl ?_
    refine r_iconst (pc := 115) (v := 3) dX12_count_115 (by decide) ?_
    refine r_ml (pc := 116) (i := 0) (j := 3) hm dX12_count_116 (by decide) rfl (by decide) ?_
    rw [r3]
    refine r_ireturn (pc := 117) (ty := .int) dX12_count_117 rfl rfl ⟨Nat.zero_le _, Nat.zero_le _⟩ (fun gE hg => ?_)
    exact mR hg (h7 _ _ q)
  by_cases s1_8 : a = 8
  · skip
    refine r_tableAt (pc := 1) 118 8 dX12_count_1 (by rw [s1_8]; decide) (by decide) rfl (by decide) ?_
    subst s1_8
    have h7 := hP (by decide)
    refine r_aload_n (pc := 118) dX12_count_118 rfl ?_
    refine r_getf (pc := 119) (k := 0) dX12_count_119 hX12 eX12 (by decide) fX12_7 (fun _ q => mo hm q) rfl ?_
    refine r_bipush (pc := 122) (v := 9) dX12_count_122 (by decide) ?_
    refine r_ml (pc := 124) (i := 0) (j := 9) hm dX12_count_124 (by decide) rfl (by decide) ?_
    rw [u9]
    refine r_ireturn (pc := 125) (ty := .int) dX12_count_125 rfl rfl ⟨Nat.zero_le _, Nat.zero_le _⟩ (fun gE hg => ?_)
    exact mR hg (h7 _ _ q)
  by_cases s1_9 : a = 9
  · skip
    refine r_tableAt (pc := 1) 126 9 dX12_count_1 (by rw [s1_9]; decide) (by decide) rfl (by decide) ?_
    subst s1_9
    have h7 := hP (by decide)
    refine r_aload_n (pc := 126) dX12_count_126 rfl ?_
    refine r_getf (pc := 127) (k := 0) dX12_count_127 hX12 eX12 (by decide) fX12_7 (fun _ q => mo hm q) rfl ?_
    refine r_bipush (pc := 130) (v := 10) dX12_count_130 (by decide) ?_
    refine r_ml (pc := 132) (i := 0) (j := 10) hm dX12_count_132 (by decide) rfl (by decide) ?_
    rw [u10]
    refine r_ireturn (pc := 133) (ty := .int) dX12_count_133 rfl rfl ⟨Nat.zero_le _, Nat.zero_le _⟩ (fun gE hg => ?_)
    exact mR hg (h7 _ _ q)
  by_cases s1_10 : a = 10
  · skip
    refine r_tableAt (pc := 1) 134 10 dX12_count_1 (by rw [s1_10]; decide) (by decide) rfl (by decide) ?_
    subst s1_10
    have h7 := hP (by decide)
    refine r_aload_n (pc := 134) dX12_count_134 rfl ?_
    refine r_getf (pc := 135) (k := 26) dX12_count_135 hX12 eX12 (by decide) fX12_244 (fun _ q => mo hm q) rfl ?_
    rw [q.2.2.2.2.2.1]
    refine r_ireturn (pc := 138) (ty := .int) dX12_count_138 rfl rfl ⟨Nat.zero_le _, Nat.zero_le _⟩ (fun gE hg => ?_)
    exact mR hg (h7 _ _ q)
  by_cases s1_11 : a = 11
  · skip
    refine r_tableAt (pc := 1) 139 11 dX12_count_1 (by rw [s1_11]; decide) (by decide) rfl (by decide) ?_
    subst s1_11
    have h7 := hP (by decide)
    refine r_aload_n (pc := 139) dX12_count_139 rfl ?_
    refine r_getf (pc := 140) (k := 0) dX12_count_140 hX12 eX12 (by decide) fX12_7 (fun _ q => mo hm q) rfl ?_
    refine r_bipush (pc := 143) (v := 7) dX12_count_143 (by decide) ?_
    refine r_ml (pc := 145) (i := 0) (j := 7) hm dX12_count_145 (by decide) rfl (by decide) ?_
    rw [u7]
    refine r_ireturn (pc := 146) (ty := .int) dX12_count_146 rfl rfl ⟨Nat.zero_le _, Nat.zero_le _⟩ (fun gE hg => ?_)
    exact mR hg (h7 _ _ q)
  have t1_0 : ¬ (a).toInt = 0 := fun q => s1_0 (Int32.toInt_inj.mp q)
  have t1_1 : ¬ (a).toInt = 1 := fun q => s1_1 (Int32.toInt_inj.mp q)
  have t1_2 : ¬ (a).toInt = 2 := fun q => s1_2 (Int32.toInt_inj.mp q)
  have t1_3 : ¬ (a).toInt = 3 := fun q => s1_3 (Int32.toInt_inj.mp q)
  have t1_4 : ¬ (a).toInt = 4 := fun q => s1_4 (Int32.toInt_inj.mp q)
  have t1_5 : ¬ (a).toInt = 5 := fun q => s1_5 (Int32.toInt_inj.mp q)
  have t1_6 : ¬ (a).toInt = 6 := fun q => s1_6 (Int32.toInt_inj.mp q)
  have t1_7 : ¬ (a).toInt = 7 := fun q => s1_7 (Int32.toInt_inj.mp q)
  have t1_8 : ¬ (a).toInt = 8 := fun q => s1_8 (Int32.toInt_inj.mp q)
  have t1_9 : ¬ (a).toInt = 9 := fun q => s1_9 (Int32.toInt_inj.mp q)
  have t1_10 : ¬ (a).toInt = 10 := fun q => s1_10 (Int32.toInt_inj.mp q)
  have t1_11 : ¬ (a).toInt = 11 := fun q => s1_11 (Int32.toInt_inj.mp q)
  refine r_tableOut (pc := 1) 147 dX12_count_1 (by omega) (by decide) ?_
  have k1 : wiB a 0 11 = false := decide_eq_false (by rw [t0, show (11 : Int32).toInt = 11 from rfl]; omega)
  refine r_aload_n (pc := 147) dX12_count_147 rfl ?_
  refine r_ldc (pc := 148) (v := (-1000000001)) dX12_count_148 qX12_61 ?_
  refine r_Vi (pc := 150) (μ' := mX12_errs) dX12_count_150 nX12_62 iX12_errs vX12_errs kX12_errs rfl rfl (rr (by decide) rfl) rfl ⟨Nat.zero_le _, Nat.zero_le _⟩ (fun _ q_ => cvq q_ (ct_M_errs hm 1 (by decide) (by decide))) ?_
  rw [show (-1000000001 : Int32) = -1000000000 - 1 from rfl]
  refine r_ireturn (pc := 153) (ty := .int) dX12_count_153 rfl rfl ⟨Nat.zero_le _, Nat.zero_le _⟩ (fun gE hg => ?_)
  exact mR hg (e1 k1 _ _ (q.err (by decide) rfl))
theorem RMr.e267 {f f2 : Nat → Int32} (q : RMr hs tD tL tp wa z f) (h : ∀ j, j < 267 → f2 j = f j) : RMr hs tD tL tp wa z f2 := q.ext fun j hj => h j (by unfold RJ at hj; omega)
theorem RMk_can {f : Nat → Int32} (q : RMk K f) : RMk (noCan K) f := by
  obtain ⟨ro, st, mi, he, le, wh, si, ca, w, v⟩ := K
  exact q
set_option maxHeartbeats 4000000 in
theorem cm_image (hm : m + 14 < h.1) (q : MG K hs tD tL tp wa z k bt sh hd er im s A) (ok : KOk K) (hi : ¬ im + 1 = 0) (hP : ∀ s2 A2, MG K hs tD tL tp wa z (noCan K, hs, tD, tL, tp, wa, z) bt sh hd er (im + 1) s2 A2 → Q (some (.int (im + 1))) (mh m h s2 A2)) : CV 6 0 0 mX12_image m [] (mh m h s A) Q := by
  refine ⟨mV hm, ?_⟩
  refine ct_of (by decide) (fun _ _ => Nat.le_of_ble_eq_true rfl) ?_
  dsimp only [pad, ent]
  refine aw_P (P' := MP m h s A) (fun _ q => q) ?_
  obtain ⟨q1, q2, ⟨q3, q4, q5⟩, q6, q7, q8⟩ := id q
  refine r_aload_n (pc := 0) dX12_image_0 rfl ?_
  refine r_aload_n (pc := 1) dX12_image_1 rfl ?_
  refine r_getf (pc := 2) (k := 0) dX12_image_2 hX12 eX12 (by decide) fX12_7 (fun _ q => mo hm q) rfl ?_
  refine r_aload_n (pc := 5) dX12_image_5 rfl ?_
  refine r_getf (pc := 6) (k := 1) dX12_image_6 hX12 eX12 (by decide) fX12_13 (fun _ q => mo hm q) rfl ?_
  refine r_Vv (pc := 9) (μ' := mX12_moveAll) dX12_image_9 nX12_188 iX12_moveAll vX12_moveAll kX12_moveAll rfl rfl (rr (by decide) rfl) rfl ⟨Nat.zero_le _, Nat.zero_le _⟩ (fun _ q_ => cvq q_ (ct_M_moveAll hm 0 1 (by decide) (by decide) (by decide))) ?_
  refine r_aload_n (pc := 12) dX12_image_12 rfl ?_
  refine r_iconst (pc := 13) (v := 1) dX12_image_13 (by decide) ?_
  refine r_mp (pc := 14) (k := 4) hm dX12_image_14 fX12_275 (by decide) rfl rfl (fun _ _ => rfl) (fun _ _ => rfl) rfl ?_
  refine r_aload_n (pc := 17) dX12_image_17 rfl ?_
  refine r_dup (pc := 18) dX12_image_18 rfl ?_
  refine r_getf (pc := 19) (k := 5) dX12_image_19 hX12 eX12 (by decide) fX12_278 (fun _ q => mo hm q) rfl ?_
  rw [show upd s 4 1 5 = im from q4]
  refine r_iconst (pc := 22) (v := 1) dX12_image_22 (by decide) ?_
  refine r_iadd (pc := 23) dX12_image_23 ?_
  refine r_mp (pc := 24) (k := 5) hm dX12_image_24 fX12_278 (by decide) rfl rfl (fun _ _ => rfl) (fun _ _ => rfl) rfl ?_
  refine r_aload_n (pc := 27) dX12_image_27 rfl ?_
  refine r_getf (pc := 28) (k := 5) dX12_image_28 hX12 eX12 (by decide) fX12_278 (fun _ q => mo hm q) rfl ?_
  rw [upd_s]
  refine r_ireturn (pc := 31) (ty := .int) dX12_image_31 rfl rfl ⟨Nat.zero_le _, Nat.zero_le _⟩ (fun gE hg => ?_)
  refine mR hg (hP _ _ ⟨q1, fun _ => ⟨?_, ?_⟩, ⟨by rw [if_neg hi]; rfl, upd_s, (upd_n (by decide)).trans ((upd_n (by decide)).trans q5)⟩, q6, q7, ⟨(upd_n (by decide)).trans ((upd_n (by decide)).trans q8.1), q8.2⟩⟩)
  · rw [upA_s]; exact RMk_can (q.rk.ext ok fun j hj => if_pos (by omega))
  · rw [upA_s]; exact q.rr.e267 fun j hj => if_pos hj
set_option maxHeartbeats 4000000 in
theorem cm_restore (hm : m + 14 < h.1) (q : MG K hs tD tL tp wa z k bt sh hd er im s A) (okk : KOk k.1) (e2 : im = 0 → ∀ s2 A2, MG K hs tD tL tp wa z k bt sh hd (errL er 2) im s2 A2 → Q (some (.int (-1000000000 - 2))) (mh m h s2 A2)) (hP : ¬ im = 0 → ∀ s2 A2, MG (noCan k.1) k.2.1 k.2.2.1 k.2.2.2.1 k.2.2.2.2.1 k.2.2.2.2.2.1 k.2.2.2.2.2.2 k bt sh hd er im s2 A2 → Q (some (.int (nI (kMi k.1)))) (mh m h s2 A2)) : CV 6 0 0 mX12_restore m [] (mh m h s A) Q := by
  refine ⟨mV hm, ?_⟩
  refine ct_of (by decide) (fun _ _ => Nat.le_of_ble_eq_true rfl) ?_
  dsimp only [pad, ent]
  refine aw_P (P' := MP m h s A) (fun _ q => q) ?_
  have q4 : s 4 = (if im = 0 then 0 else 1) := q.2.2.1.1
  by_cases c : im = 0
  · rw [if_pos c] at q4
    refine r_aload_n (pc := 0) dX12_restore_0 rfl ?_
    refine r_getf (pc := 1) (k := 4) dX12_restore_1 hX12 eX12 (by decide) fX12_275 (fun _ q => mo hm q) rfl ?_
    rw [q4]
    refine r_if_ne (pc := 4) 14 dX12_restore_4 (by decide) (fun c4 => ?_) (fun c4 => ?_)
    · skip
      exact absurd rfl c4
    · skip
      refine r_aload_n (pc := 7) dX12_restore_7 rfl ?_
      refine r_ldc (pc := 8) (v := (-1000000002)) dX12_restore_8 qX12_220 ?_
      refine r_Vi (pc := 10) (μ' := mX12_errs) dX12_restore_10 nX12_62 iX12_errs vX12_errs kX12_errs rfl rfl (rr (by decide) rfl) rfl ⟨Nat.zero_le _, Nat.zero_le _⟩ (fun _ q_ => cvq q_ (ct_M_errs hm 2 (by decide) (by decide))) ?_
      rw [show (-1000000002 : Int32) = -1000000000 - 2 from rfl]
      refine r_ireturn (pc := 13) (ty := .int) dX12_restore_13 rfl rfl ⟨Nat.zero_le _, Nat.zero_le _⟩ (fun gE hg => ?_)
      exact mR hg (e2 c _ _ (q.err (by decide) rfl))
  · rw [if_neg c] at q4
    obtain ⟨p1, p2⟩ := q.2.1 c
    refine r_aload_n (pc := 0) dX12_restore_0 rfl ?_
    refine r_getf (pc := 1) (k := 4) dX12_restore_1 hX12 eX12 (by decide) fX12_275 (fun _ q => mo hm q) rfl ?_
    rw [q4]
    refine r_if_ne (pc := 4) 14 dX12_restore_4 (by decide) (fun c4 => ?_) (fun c4 => ?_)
    · skip
      refine r_aload_n (pc := 14) dX12_restore_14 rfl ?_
      refine r_aload_n (pc := 15) dX12_restore_15 rfl ?_
      refine r_getf (pc := 16) (k := 1) dX12_restore_16 hX12 eX12 (by decide) fX12_13 (fun _ q => mo hm q) rfl ?_
      refine r_aload_n (pc := 19) dX12_restore_19 rfl ?_
      refine r_getf (pc := 20) (k := 0) dX12_restore_20 hX12 eX12 (by decide) fX12_7 (fun _ q => mo hm q) rfl ?_
      refine r_Vv (pc := 23) (μ' := mX12_moveAll) dX12_restore_23 nX12_188 iX12_moveAll vX12_moveAll kX12_moveAll rfl rfl (rr (by decide) rfl) rfl ⟨Nat.zero_le _, Nat.zero_le _⟩ (fun _ q_ => cvq q_ (ct_M_moveAll hm 1 0 (by decide) (by decide) (by decide))) ?_
      refine r_aload_n (pc := 26) dX12_restore_26 rfl ?_
      refine r_getf (pc := 27) (k := 0) dX12_restore_27 hX12 eX12 (by decide) fX12_7 (fun _ q => mo hm q) rfl ?_
      refine r_iconst (pc := 30) (v := 2) dX12_restore_30 (by decide) ?_
      refine r_ml (pc := 31) (i := 0) (j := 2) hm dX12_restore_31 (by decide) rfl (by decide) ?_
      rw [show upA A 0 (mvF (A 1) (A 0)) 0 2 = _ from p1.2.2.1]
      refine r_ireturn (pc := 32) (ty := .int) dX12_restore_32 rfl rfl ⟨Nat.zero_le _, Nat.zero_le _⟩ (fun gE hg => ?_)
      exact mR hg (hP c _ _ (q.row (RMk_can (p1.ext okk fun j hj => if_pos (by omega))) (p2.e267 fun j hj => if_pos hj)))
    · skip
      exact absurd c4 (by decide)
end Mtold
