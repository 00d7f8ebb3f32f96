/-! THE REFERENCE, whole: the tape, TEXTS -/
theorem sh_bv (x : BitVec 64) (n : Nat) (hn : n ≤ 56) : (x >>> n) &&& 255#64 = (x.sshiftRight n) &&& 255#64 := by
  apply BitVec.eq_of_getLsbD_eq
  intro i hi
  rw [BitVec.getLsbD_and, BitVec.getLsbD_and, BitVec.getLsbD_sshiftRight, BitVec.getLsbD_ushiftRight]
  by_cases c : i < 8
  · rw [if_pos (by omega), show decide (64 ≤ i) = false from decide_eq_false (by omega)]
    simp
  · have e : (255#64).getLsbD i = false := by
      rw [BitVec.getLsbD_ofNat, show (255 : Nat) = 2 ^ 8 - 1 from rfl, Nat.testBit_two_pow_sub_one]
      simp [c]
    rw [e, Bool.and_false, Bool.and_false]
def bmI (w : Int64) (k : Nat) : Int32 := ((w >>> ((8 * nI k).toInt64 &&& 63)) &&& 255).toInt32
theorem by_bm (w : Int64) : ∀ k, k < 8 → bmI w k = byI w k
  | 0, _ => Int32.toBitVec_inj.mp (congrArg (BitVec.signExtend 32) (sh_bv w.toBitVec 0 (by decide)).symm)
  | 1, _ => Int32.toBitVec_inj.mp (congrArg (BitVec.signExtend 32) (sh_bv w.toBitVec 8 (by decide)).symm)
  | 2, _ => Int32.toBitVec_inj.mp (congrArg (BitVec.signExtend 32) (sh_bv w.toBitVec 16 (by decide)).symm)
  | 3, _ => Int32.toBitVec_inj.mp (congrArg (BitVec.signExtend 32) (sh_bv w.toBitVec 24 (by decide)).symm)
  | 4, _ => Int32.toBitVec_inj.mp (congrArg (BitVec.signExtend 32) (sh_bv w.toBitVec 32 (by decide)).symm)
  | 5, _ => Int32.toBitVec_inj.mp (congrArg (BitVec.signExtend 32) (sh_bv w.toBitVec 40 (by decide)).symm)
  | 6, _ => Int32.toBitVec_inj.mp (congrArg (BitVec.signExtend 32) (sh_bv w.toBitVec 48 (by decide)).symm)
  | 7, _ => Int32.toBitVec_inj.mp (congrArg (BitVec.signExtend 32) (sh_bv w.toBitVec 56 (by decide)).symm)
  | k + 8, h => absurd h (by omega)
section Mtext
variable {m : Nat} {h : AH} {K K2 : CK} {hs hs2 : List (Nat × Nat)} {tD tL tD2 tL2 : Option (List Int32)} {tp wa tp2 wa2 hd er lD lL : List Int32} {z im z2 : Int32} {k : MK} {bt : Nat → Int32} {sh : Nat → List Int32} {s s2 : Nat → Int32} {A A2 : Nat → Nat → Int32} {Q : Option Value → AH → Prop} {f : Nat → Int32}
theorem RMr_tp {f f2 : Nat → Int32} (q : RMr hs tD tL tp wa z f) (hw : RMl tp2 9 97 f2 ∧ tp2.length ≤ 50) (ho : ∀ j, RJ j → j ≠ 9 → ¬ (97 ≤ j ∧ j < 147) → f2 j = f j) : RMr hs tD tL tp2 wa z f2 := by
  obtain ⟨q1, ⟨q2, q3⟩, q4, q5, -, q8, q9⟩ := q
  have o : ∀ j, RJ j → j ≠ 9 → ¬ (97 ≤ j ∧ j < 147) → f2 j = f j := ho
  refine ⟨(o 7 (by unfold RJ; omega) (by omega) (by omega)).trans q1, ⟨⟨(o 8 (by unfold RJ; omega) (by omega) (by omega)).trans q2.1, fun i hi => ⟨(o _ (by unfold RJ; omega) (by omega) (by omega)).trans (q2.2 i hi).1, (o _ (by unfold RJ; omega) (by omega) (by omega)).trans (q2.2 i hi).2⟩⟩, q3⟩, ?_, ?_, hw, ⟨⟨(o 10 (by unfold RJ; omega) (by omega) (by omega)).trans q8.1, fun j hj => (o _ (by unfold RJ; omega) (by omega) (by omega)).trans (q8.2 j hj)⟩, q9⟩⟩
  · rw [o 11 (by unfold RJ; omega) (by omega) (by omega)]; exact q4.ext fun j hj => o _ (by unfold RJ; omega) (by omega) (by omega)
  · rw [o 12 (by unfold RJ; omega) (by omega) (by omega)]; exact q5.ext fun j hj => o _ (by unfold RJ; omega) (by omega) (by omega)
set_option maxHeartbeats 4000000 in
theorem cm_feed (hm : m + 14 < h.1) {w : Int64} {b : Int32} (q : MG K hs tD tL tp wa z k bt sh hd er im s A) (ok : KOk K) (e1 : wiB b 1 8 = false → ∀ s2 A2, MG K hs tD tL tp wa z k bt sh hd (errL er 1) im s2 A2 → Q (some (.int (-1000000000 - 1))) (mh m h s2 A2)) (e4 : ∀ n, b = nI n → 1 ≤ n → n ≤ 8 → ¬ tp.length + n ≤ 50 → ∀ s2 A2, MG K hs tD tL tp wa z k bt sh hd (errL er 4) im s2 A2 → Q (some (.int (-1000000000 - 4))) (mh m h s2 A2)) (hP : ∀ n, b = nI n → 1 ≤ n → n ≤ 8 → tp.length + n ≤ 50 → ∀ s2 A2, MG K hs tD tL (tp ++ byL w n) wa z k bt sh hd er im s2 A2 → Q (some (.int (nI (tp.length + n)))) (mh m h s2 A2)) : CV 6 0 0 mX12_feed m [.long w, .int b] (mh m h s A) Q := by
  refine ⟨mV hm, ?_⟩
  refine ct_of (by decide) (fun _ _ => Nat.le_of_ble_eq_true rfl) ?_
  dsimp only [pad, ent]
  have h9 := q.rr.2.2.2.2.1.1.1
  have hl := q.rr.2.2.2.2.1.2
  have L : ∀ n, b = nI n → 1 ≤ n → n ≤ 8 → tp.length + n ≤ 50 → ∀ j, j ≤ n → ∀ f : Nat → Int32, RMl (tp ++ byL w j) 9 97 f → (∀ y, y ≠ 9 → ¬ (97 ≤ y ∧ y < 147) → f y = A 0 y) → AW (fun _ => True) (rmd 6 0 0) mX12_feed 0 0 41 [some (.ref m), some (.long w), none, some (.int (nI n)), some (.int (nI j))] [] (MP m h s (upA A 0 f)) Q := by
    intro n hn h1 h2 h3
    have hTn := nI_T (n := n) (by omega)
    refine up_loop ?_ ?_
    · intro f f1 f2
      have hl2 : (tp ++ byL w n).length = tp.length + n := by rw [List.length_append, byL_len]
      refine r_iload (pc := 41) dX12_feed_41 rfl ?_
      refine r_iload_n (pc := 43) dX12_feed_43 rfl ?_
      refine r_icmp_ge (pc := 44) 91 dX12_feed_44 (by decide) (fun c44 => ?_) (fun c44 => ?_)
      · skip
        refine r_aload_n (pc := 91) dX12_feed_91 rfl ?_
        refine r_getf (pc := 92) (k := 0) dX12_feed_92 hX12 eX12 (by decide) fX12_7 (fun _ q => mo hm q) rfl ?_
        refine r_bipush (pc := 95) (v := 9) dX12_feed_95 (by decide) ?_
        refine r_rl (pc := 97) (j := 9) hm dX12_feed_97 rfl (by decide) ?_
        rw [f1.1, hl2]
        refine r_ireturn (pc := 98) (ty := .int) dX12_feed_98 rfl rfl ⟨Nat.zero_le _, Nat.zero_le _⟩ (fun gE hg => ?_)
        exact mR hg (hP n hn h1 h2 h3 _ _ (q.row (q.rk.ext2 ok fun j hj => f2 j (by omega) (by omega)) (RMr_tp q.rr ⟨f1, by omega⟩ (fun j hj a b => f2 j a b))))
      · skip
        exact absurd (fa_le.mpr (Int.le_refl _)) c44
    · intro j hj ih f f1 f2
      have hTj := nI_T (n := j) (by omega)
      have hl2 : (tp ++ byL w j).length = tp.length + j := by rw [List.length_append, byL_len]
      have f9 := f1.1
      rw [hl2] at f9
      have hb : ((w >>> ((8 * nI j).toInt64 &&& 63)) &&& 255).toInt32 = byI w j := by_bm w j (by omega)
      refine r_iload (pc := 41) dX12_feed_41 rfl ?_
      refine r_iload_n (pc := 43) dX12_feed_43 rfl ?_
      refine r_icmp_ge (pc := 44) 91 dX12_feed_44 (by decide) (fun c44 => ?_) (fun c44 => ?_)
      · skip
        exact absurd c44 (fun x => by have := fa_le.mp x; omega)
      · skip
        refine r_aload_n (pc := 47) dX12_feed_47 rfl ?_
        refine r_getf (pc := 48) (k := 0) dX12_feed_48 hX12 eX12 (by decide) fX12_7 (fun _ q => mo hm q) rfl ?_
        refine r_bipush (pc := 51) (v := 97) dX12_feed_51 (by decide) ?_
        refine r_aload_n (pc := 53) dX12_feed_53 rfl ?_
        refine r_getf (pc := 54) (k := 0) dX12_feed_54 hX12 eX12 (by decide) fX12_7 (fun _ q => mo hm q) rfl ?_
        refine r_bipush (pc := 57) (v := 9) dX12_feed_57 (by decide) ?_
        refine r_rl (pc := 59) (j := 9) hm dX12_feed_59 rfl (by decide) ?_
        rw [f9]
        refine r_iadd (pc := 60) dX12_feed_60 ?_
        rw [show (97 : Int32) + nI (tp.length + j) = nI (97 + (tp.length + j)) from nI_add 97 _]
        refine r_lload_n (pc := 61) dX12_feed_61 rfl ?_
        refine r_bipush (pc := 62) (v := 8) dX12_feed_62 (by decide) ?_
        refine r_iload (pc := 64) dX12_feed_64 rfl ?_
        refine r_imul (pc := 66) dX12_feed_66 ?_
        refine r_lshr (pc := 67) dX12_feed_67 ?_
        refine r_ldc2 (pc := 68) (v := 255) dX12_feed_68 qX12_186 ?_
        refine r_land (pc := 71) dX12_feed_71 ?_
        refine r_l2i (pc := 72) dX12_feed_72 ?_
        rw [hb]
        refine r_rs (pc := 73) (j := (97 + (tp.length + j))) hm dX12_feed_73 (nI_T (by omega)) (show (97 + (tp.length + j)) < 267 by omega) ?_
        refine r_aload_n (pc := 74) dX12_feed_74 rfl ?_
        refine r_getf (pc := 75) (k := 0) dX12_feed_75 hX12 eX12 (by decide) fX12_7 (fun _ q => mo hm q) rfl ?_
        refine r_bipush (pc := 78) (v := 9) dX12_feed_78 (by decide) ?_
        refine r_dup2 (pc := 80) dX12_feed_80 rfl rfl ?_
        refine r_rl (pc := 81) (j := 9) hm dX12_feed_81 rfl (by decide) ?_
        rw [upd_n (by omega), f9]
        refine r_iconst (pc := 82) (v := 1) dX12_feed_82 (by decide) ?_
        refine r_iadd (pc := 83) dX12_feed_83 ?_
        rw [nI_1]
        refine r_rs (pc := 84) (j := 9) hm dX12_feed_84 rfl (by decide) ?_
        refine r_iinc1 (pc := 85) dX12_feed_85 rfl (Nat.le_of_ble_eq_true rfl) rfl ?_
        dsimp only [lset]
        refine r_goto (pc := 88) 41 dX12_feed_88 (by decide) ?_
        rw [nI_1]
        refine ih _ ⟨?_, fun y hy => ?_⟩ (fun y h1 h2 => ?_)
        · rw [upd_s, byL_s, ← List.append_assoc, List.length_append, hl2]; rfl
        · rw [byL_s, ← List.append_assoc, List.length_append, hl2, List.length_singleton] at hy
          rw [byL_s, ← List.append_assoc, getD_app (by rw [hl2]; omega), hl2, upd_n (by omega)]
          by_cases e : y = tp.length + j
          · rw [if_pos e, e, upd_s]
          · rw [if_neg e, upd_n (by omega)]; exact f1.2 y (by omega)
        · rw [upd_n h1, upd_n (by omega)]; exact f2 y h1 h2
  refine aw_P (P' := MP m h s A) (fun _ q => q) ?_
  refine r_iload_n (pc := 0) dX12_feed_0 rfl ?_
  refine r_iconst (pc := 1) (v := 1) dX12_feed_1 (by decide) ?_
  refine r_bipush (pc := 2) (v := 8) dX12_feed_2 (by decide) ?_
  refine r_Sp (pc := 4) (μ' := mX12_in) dX12_feed_4 nX12_57 sX12_in kX12_in rfl rfl (rr (by decide) rfl) rfl ⟨Nat.zero_le _, Nat.zero_le _⟩ (fun h => ct_M_in h) ?_
  refine r_if_ne (pc := 7) 17 dX12_feed_7 (by decide) (fun c7 => ?_) (fun c7 => ?_)
  · skip
    have k1 := b2i_n0.mp c7
    have w1 := wi_t k1
    rw [t1, show (8 : Int32).toInt = 8 from rfl] at w1
    obtain ⟨n, hn, h1, h2⟩ : ∃ n, b = nI n ∧ 1 ≤ n ∧ n ≤ 8 := ⟨b.toInt.toNat, (nI_tn (by omega) (by omega)).symm, by omega, by omega⟩
    have hTn := nI_T (n := tp.length + n) (by omega)
    refine r_aload_n (pc := 17) dX12_feed_17 rfl ?_
    refine r_getf (pc := 18) (k := 0) dX12_feed_18 hX12 eX12 (by decide) fX12_7 (fun _ q => mo hm q) rfl ?_
    refine r_bipush (pc := 21) (v := 9) dX12_feed_21 (by decide) ?_
    refine r_ml (pc := 23) (i := 0) (j := 9) hm dX12_feed_23 (by decide) rfl (by decide) ?_
    rw [h9, hn]
    refine r_iload_n (pc := 24) dX12_feed_24 rfl ?_
    refine r_iadd (pc := 25) dX12_feed_25 ?_
    rw [nI_add]
    refine r_bipush (pc := 26) (v := 50) dX12_feed_26 (by decide) ?_
    refine r_icmp_le (pc := 28) 38 dX12_feed_28 (by decide) (fun c28 => ?_) (fun c28 => ?_)
    · skip
      have k3 : tp.length + n ≤ 50 := by have := fa_le.mp c28; rw [hTn, show (50 : Int32).toInt = 50 from rfl] at this; omega
      refine r_iconst (pc := 38) (v := 0) dX12_feed_38 (by decide) ?_
      refine r_istore (pc := 39) dX12_feed_39 (Nat.le_of_ble_eq_true rfl) rfl ?_
      dsimp only [lset]
      refine aw_P (P' := MP m h s (upA A 0 (A 0))) (fun _ q => by rw [upA_id]; exact q) ?_
      exact L n hn h1 h2 k3 0 (Nat.zero_le _) (A 0) (by rw [show tp ++ byL w 0 = tp from List.append_nil tp]; exact q.rr.2.2.2.2.1.1) (fun y _ _ => rfl)
    · skip
      have k3 : ¬ tp.length + n ≤ 50 := fun x => c28 (fa_le.mpr (by rw [hTn, show (50 : Int32).toInt = 50 from rfl]; omega))
      refine r_aload_n (pc := 31) dX12_feed_31 rfl ?_
      refine r_ldc (pc := 32) (v := (-1000000004)) dX12_feed_32 qX12_97 ?_
      refine r_Vi (pc := 34) (μ' := mX12_errs) dX12_feed_34 nX12_62 iX12_errs vX12_errs kX12_errs rfl rfl (rr (by decide) rfl) rfl ⟨Nat.zero_le _, Nat.zero_le _⟩ (fun _ q_ => cvq q_ (ct_M_errs hm 4 (by decide) (by decide))) ?_
      rw [show (-1000000004 : Int32) = -1000000000 - 4 from rfl]
      refine r_ireturn (pc := 37) (ty := .int) dX12_feed_37 rfl rfl ⟨Nat.zero_le _, Nat.zero_le _⟩ (fun gE hg => ?_)
      exact mR hg (e4 n hn h1 h2 k3 _ _ (q.err (by decide) rfl))
  · skip
    have k1 := b2i_0.mp c7
    refine r_aload_n (pc := 10) dX12_feed_10 rfl ?_
    refine r_ldc (pc := 11) (v := (-1000000001)) dX12_feed_11 qX12_61 ?_
    refine r_Vi (pc := 13) (μ' := mX12_errs) dX12_feed_13 nX12_62 iX12_errs vX12_errs kX12_errs rfl rfl (rr (by decide) rfl) rfl ⟨Nat.zero_le _, Nat.zero_le _⟩ (fun _ q_ => cvq q_ (ct_M_errs hm 1 (by decide) (by decide))) ?_
    rw [show (-1000000001 : Int32) = -1000000000 - 1 from rfl]
    refine r_ireturn (pc := 16) (ty := .int) dX12_feed_16 rfl rfl ⟨Nat.zero_le _, Nat.zero_le _⟩ (fun gE hg => ?_)
    exact mR hg (e1 k1 _ _ (q.err (by decide) rfl))
set_option maxHeartbeats 4000000 in
theorem cm_law (hm : m + 14 < h.1) {a b c d : Int32} (q : MG K hs tD tL tp wa z k bt sh hd er im s A) (hD : TR 0 tD lD) (hL : TR 1 tL lL) (e1 : wiB a 0 1 = false → ∀ s2 A2, MG K hs tD tL tp wa z k bt sh hd (errL er 1) im s2 A2 → Q (some (.int (-1000000000 - 1))) (mh m h s2 A2)) (hP : wiB a 0 1 = true → ∀ s2 A2, MG K hs tD tL tp wa z k bt sh hd er im s2 A2 → Q (some (.int (lwI lD lL a b c d))) (mh m h s2 A2)) : CV 50 0 0 mX12_law m [.int a, .int b, .int c, .int d] (mh m h s A) Q := by
  refine ⟨mV hm, ?_⟩
  refine ct_of (by decide) (fun _ _ => Nat.le_of_ble_eq_true rfl) ?_
  dsimp only [pad, ent]
  refine aw_P (P' := MP m h s A) (fun _ q => q) ?_
  have ct0 := ct_M_lawOf (s := s) (A := A) (u := 0) hm (by decide) q.rr.2.2.1 hD (a := b) (b := c) (c := d)
  have ct1 := ct_M_lawOf (s := s) (A := A) (u := 1) hm (by decide) q.rr.2.2.2.1 hL (a := b) (b := c) (c := d)
  by_cases a0 : a = 0
  · subst a0
    have h7 := hP (by decide)
    rw [show lwI lD lL 0 b c d = lawI (nI 0) lD b c d from rfl] at h7
    refine r_iload_n (pc := 0) dX12_law_0 rfl ?_
    refine r_iconst (pc := 1) (v := 0) dX12_law_1 (by decide) ?_
    refine r_iconst (pc := 2) (v := 1) dX12_law_2 (by decide) ?_
    refine r_Sp (pc := 3) (μ' := mX12_in) dX12_law_3 nX12_57 sX12_in kX12_in rfl rfl (rr (by omega) rfl) rfl ⟨Nat.zero_le _, Nat.zero_le _⟩ (fun h => ct_M_in h) ?_
    refine r_if_eq (pc := 6) 21 dX12_law_6 (by decide) (fun c6 => ?_) (fun c6 => ?_)
    · skip
      exact absurd c6 (by decide)
    · skip
      refine r_aload_n (pc := 9) dX12_law_9 rfl ?_
      refine r_iload_n (pc := 10) dX12_law_10 rfl ?_
      refine r_iload_n (pc := 11) dX12_law_11 rfl ?_
      refine r_iload_n (pc := 12) dX12_law_12 rfl ?_
      refine r_iload (pc := 13) dX12_law_13 rfl ?_
      rw [show (0 : Int32) = nI 0 from rfl]
      refine r_Vi (pc := 15) (μ' := mX12_lawOf) dX12_law_15 nX12_74 iX12_lawOf vX12_lawOf kX12_lawOf rfl rfl (rr (by omega) rfl) rfl ⟨Nat.zero_le _, Nat.zero_le _⟩ (fun _ q_ => cvq q_ (ct0)) ?_
      refine aw_ex fun s3 => aw_pr fun q3 => ?_
      refine r_goto (pc := 18) 27 dX12_law_18 (by decide) ?_
      refine r_ireturn (pc := 27) (ty := .int) dX12_law_27 rfl rfl ⟨Nat.zero_le _, Nat.zero_le _⟩ (fun gE hg => ?_)
      exact mR hg (h7 _ _ (q.scr q3))
  · by_cases a1 : a = 1
    · subst a1
      have h7 := hP (by decide)
      rw [show lwI lD lL 1 b c d = lawI (nI 1) lL b c d from rfl] at h7
      refine r_iload_n (pc := 0) dX12_law_0 rfl ?_
      refine r_iconst (pc := 1) (v := 0) dX12_law_1 (by decide) ?_
      refine r_iconst (pc := 2) (v := 1) dX12_law_2 (by decide) ?_
      refine r_Sp (pc := 3) (μ' := mX12_in) dX12_law_3 nX12_57 sX12_in kX12_in rfl rfl (rr (by omega) rfl) rfl ⟨Nat.zero_le _, Nat.zero_le _⟩ (fun h => ct_M_in h) ?_
      refine r_if_eq (pc := 6) 21 dX12_law_6 (by decide) (fun c6 => ?_) (fun c6 => ?_)
      · skip
        exact absurd c6 (by decide)
      · skip
        refine r_aload_n (pc := 9) dX12_law_9 rfl ?_
        refine r_iload_n (pc := 10) dX12_law_10 rfl ?_
        refine r_iload_n (pc := 11) dX12_law_11 rfl ?_
        refine r_iload_n (pc := 12) dX12_law_12 rfl ?_
        refine r_iload (pc := 13) dX12_law_13 rfl ?_
        rw [show (1 : Int32) = nI 1 from rfl]
        refine r_Vi (pc := 15) (μ' := mX12_lawOf) dX12_law_15 nX12_74 iX12_lawOf vX12_lawOf kX12_lawOf rfl rfl (rr (by omega) rfl) rfl ⟨Nat.zero_le _, Nat.zero_le _⟩ (fun _ q_ => cvq q_ (ct1)) ?_
        refine aw_ex fun s3 => aw_pr fun q3 => ?_
        refine r_goto (pc := 18) 27 dX12_law_18 (by decide) ?_
        refine r_ireturn (pc := 27) (ty := .int) dX12_law_27 rfl rfl ⟨Nat.zero_le _, Nat.zero_le _⟩ (fun gE hg => ?_)
        exact mR hg (h7 _ _ (q.scr q3))
    · have k1 : wiB a 0 1 = false := by
        cases e : wiB a 0 1
        · rfl
        · rcases wi01.mp e with x | x
          · exact absurd x a0
          · exact absurd x a1
      refine r_iload_n (pc := 0) dX12_law_0 rfl ?_
      refine r_iconst (pc := 1) (v := 0) dX12_law_1 (by decide) ?_
      refine r_iconst (pc := 2) (v := 1) dX12_law_2 (by decide) ?_
      refine r_Sp (pc := 3) (μ' := mX12_in) dX12_law_3 nX12_57 sX12_in kX12_in rfl rfl (rr (by omega) rfl) rfl ⟨Nat.zero_le _, Nat.zero_le _⟩ (fun h => ct_M_in h) ?_
      rw [k1]
      refine r_if_eq (pc := 6) 21 dX12_law_6 (by decide) (fun c6 => ?_) (fun c6 => ?_)
      · skip
        refine r_aload_n (pc := 21) dX12_law_21 rfl ?_
        refine r_ldc (pc := 22) (v := (-1000000001)) dX12_law_22 qX12_61 ?_
        refine r_Vi (pc := 24) (μ' := mX12_errs) dX12_law_24 nX12_62 iX12_errs vX12_errs kX12_errs rfl rfl (rr (by omega) rfl) rfl ⟨Nat.zero_le _, Nat.zero_le _⟩ (fun _ q_ => cvq q_ (ct_M_errs hm 1 (by decide) (by decide))) ?_
        rw [show (-1000000001 : Int32) = -1000000000 - 1 from rfl]
        refine r_ireturn (pc := 27) (ty := .int) dX12_law_27 rfl rfl ⟨Nat.zero_le _, Nat.zero_le _⟩ (fun gE hg => ?_)
        exact mR hg (e1 k1 _ _ (q.err (by decide) rfl))
      · skip
        exact absurd rfl c6
theorem RMr_txt {f f2 : Nat → Int32} {u : Nat} (hu : u < 2) (q : RMr hs tD tL tp wa z f) (h9 : f2 9 = 0) (hl : f2 (11 + u) = nI tp.length) (hb : ∀ j, j < tp.length → f2 (167 + 50 * u + j) = tp.getD j 0) (ho : ∀ j, RJ j → j ≠ 9 → j ≠ 11 + u → ¬ (167 + 50 * u ≤ j ∧ j < 167 + 50 * u + 50) → f2 j = f j) : RMr hs (if u = 0 then some tp else tD) (if u = 0 then tL else some tp) [] wa z f2 := by
  obtain ⟨q1, ⟨q2, q3⟩, q4, q5, ⟨q6, q7⟩, q8, q9⟩ := q
  refine ⟨(ho 7 (by unfold RJ; omega) (by omega) (by omega) (by omega)).trans q1, ⟨⟨(ho 8 (by unfold RJ; omega) (by omega) (by omega) (by omega)).trans q2.1, fun i hi => ⟨(ho _ (by unfold RJ; omega) (by omega) (by omega) (by omega)).trans (q2.2 i hi).1, (ho _ (by unfold RJ; omega) (by omega) (by omega) (by omega)).trans (q2.2 i hi).2⟩⟩, q3⟩, ?_, ?_, ⟨⟨h9, fun j hj => absurd hj (Nat.not_lt_zero j)⟩, Nat.zero_le _⟩, ⟨⟨(ho 10 (by unfold RJ; omega) (by omega) (by omega) (by omega)).trans q8.1, fun j hj => (ho _ (by unfold RJ; omega) (by omega) (by omega) (by omega)).trans (q8.2 j hj)⟩, q9⟩⟩
  · have hu2 : u = 0 ∨ u = 1 := by omega
    rcases hu2 with rfl | rfl
    · exact ⟨hl, q7, hb⟩
    · show TxM tD (f2 11) 167 f2
      rw [ho 11 (by unfold RJ; omega) (by omega) (by omega) (by omega)]
      exact q4.ext fun j hj => ho _ (by unfold RJ; omega) (by omega) (by omega) (by omega)
  · have hu2 : u = 0 ∨ u = 1 := by omega
    rcases hu2 with rfl | rfl
    · show TxM tL (f2 12) 217 f2
      rw [ho 12 (by unfold RJ; omega) (by omega) (by omega) (by omega)]
      exact q5.ext fun j hj => ho _ (by unfold RJ; omega) (by omega) (by omega) (by omega)
    · exact ⟨hl, q7, hb⟩
set_option maxHeartbeats 8000000 in
theorem cm_text (hm : m + 14 < h.1) {a : Int32} (q : MG K hs tD tL tp wa z k bt sh hd er im s A) (ok : KOk K) (e1 : wiB a 0 1 = false → ∀ s2 A2, MG K hs tD tL tp wa z k bt sh hd (errL er 1) im s2 A2 → Q (some (.int (-1000000000 - 1))) (mh m h s2 A2)) (hP : ∀ u, a = nI u → u < 2 → rdOk (nI u) tp = true → ∀ s2 A2, MG K hs (if u = 0 then some tp else tD) (if u = 0 then tL else some tp) [] wa z k bt sh hd er im s2 A2 → Q (some (.int 1)) (mh m h s2 A2)) (hF : ∀ u, a = nI u → u < 2 → rdOk (nI u) tp = false → ∀ s2 A2, MG K hs tD tL [] wa z k bt sh hd er im s2 A2 → Q (some (.int (iI (-10 - ((rdAll (nI u) tp).1 : Int))))) (mh m h s2 A2)) : CV 50 0 0 mX12_text m [.int a] (mh m h s A) Q := by
  refine ⟨mV hm, ?_⟩
  refine ct_of (by decide) (fun _ _ => Nat.le_of_ble_eq_true rfl) ?_
  dsimp only [pad, ent]
  have hl := q.rr.2.2.2.2.1.2
  obtain ⟨h9, h97⟩ := q.rr.2.2.2.2.1.1
  have M : ∀ u, a = nI u → u < 2 → ∀ (f : Nat → Int32), (∀ y, ¬ (167 + 50 * u ≤ y ∧ y < 167 + 50 * u + 50) → f y = A 0 y) → (∀ j, j < 50 → f (167 + 50 * u + j) = A 0 (97 + j)) → AW (fun _ => True) (rmd 50 0 0) mX12_text 0 0 66 [some (.ref m), some (.int (nI u)), none, none, none] [] (MP m h s (upA (upA A 3 (mvF (A 0) (A 3))) 0 f)) Q := by
    intro u hu hu2 f f1 f2
    obtain ⟨x, hx, hct⟩ := ct_M_walks (a := 1) (b := 1) (c := 1) hu2 hl
    have hc2 := hct m h s (upA (upA A 3 (mvF (A 0) (A 3))) 0 (upd f (11 + u) (nI tp.length))) hm (by rw [upA_s, upd_s]) (fun j hj => by rw [upA_s, upd_n (by omega), f2 j (by omega)]; exact h97 j hj)
    have hlen := rd_len u tp
    refine r_aload_n (pc := 66) dX12_text_66 rfl ?_
    refine r_getf (pc := 67) (k := 0) dX12_text_67 hX12 eX12 (by decide) fX12_7 (fun _ q => mo hm q) rfl ?_
    refine r_bipush (pc := 70) (v := 11) dX12_text_70 (by decide) ?_
    refine r_iload_n (pc := 72) dX12_text_72 rfl ?_
    refine r_iadd (pc := 73) dX12_text_73 ?_
    rw [show (11 : Int32) + nI u = nI (11 + u) from nI_add 11 u]
    refine r_aload_n (pc := 74) dX12_text_74 rfl ?_
    refine r_getf (pc := 75) (k := 0) dX12_text_75 hX12 eX12 (by decide) fX12_7 (fun _ q => mo hm q) rfl ?_
    refine r_bipush (pc := 78) (v := 9) dX12_text_78 (by decide) ?_
    refine r_rl (pc := 80) (j := 9) hm dX12_text_80 rfl (by decide) ?_
    rw [f1 9 (by omega), h9]
    refine r_rs (pc := 81) (j := (11 + u)) hm dX12_text_81 (nI_T (by omega)) (show (11 + u) < 267 by omega) ?_
    refine r_aload_n (pc := 82) dX12_text_82 rfl ?_
    refine r_iload_n (pc := 83) dX12_text_83 rfl ?_
    refine r_iconst (pc := 84) (v := 1) dX12_text_84 (by decide) ?_
    refine r_iconst (pc := 85) (v := 1) dX12_text_85 (by decide) ?_
    refine r_iconst (pc := 86) (v := 1) dX12_text_86 (by decide) ?_
    refine r_Vi (pc := 87) (μ' := mX12_walks) dX12_text_87 nX12_183 iX12_walks vX12_walks kX12_walks rfl rfl (rr (by omega) rfl) rfl ⟨Nat.zero_le _, Nat.zero_le _⟩ (fun _ q_ => cvq q_ (hc2)) ?_
    refine aw_ex fun s3 => aw_pr fun q3 => ?_
    refine r_istore_n (pc := 90) dX12_text_90 rfl (Nat.le_of_ble_eq_true rfl) rfl ?_
    dsimp only [lset]
    refine r_aload_n (pc := 91) dX12_text_91 rfl ?_
    refine r_getf (pc := 92) (k := 17) dX12_text_92 hX12 eX12 (by decide) fX12_129 (fun _ q => mo hm q) rfl ?_
    rw [q3.1]
    refine r_if_eq (pc := 95) 107 dX12_text_95 (by decide) (fun c95 => ?_) (fun c95 => ?_)
    · skip
      have kr : rdOk (nI u) tp = false := b2i_0.mp c95
      refine r_iconst (pc := 107) (v := 0) dX12_text_107 (by decide) ?_
      refine r_istore_n (pc := 108) dX12_text_108 rfl (Nat.le_of_ble_eq_true rfl) rfl ?_
      dsimp only [lset]
      refine r_aload_n (pc := 109) dX12_text_109 rfl ?_
      refine r_getf (pc := 110) (k := 11) dX12_text_110 hX12 eX12 (by decide) fX12_132 (fun _ q => mo hm q) rfl ?_
      rw [q3.2.1]
      refine r_istore (pc := 113) dX12_text_113 (Nat.le_of_ble_eq_true rfl) rfl ?_
      dsimp only [lset]
      refine r_iload_n (pc := 115) dX12_text_115 rfl ?_
      refine r_if_ne (pc := 116) 131 dX12_text_116 (by decide) (fun c116 => ?_) (fun c116 => ?_)
      · skip
        first
        | exact absurd rfl c116
        | skip
          refine r_aload_n (pc := 131) dX12_text_131 rfl ?_
          refine r_getf (pc := 132) (k := 0) dX12_text_132 hX12 eX12 (by decide) fX12_7 (fun _ q => mo hm q) rfl ?_
          refine r_bipush (pc := 135) (v := 9) dX12_text_135 (by decide) ?_
          refine r_iconst (pc := 137) (v := 0) dX12_text_137 (by decide) ?_
          refine r_rs (pc := 138) (j := 9) hm dX12_text_138 rfl (by decide) ?_
          refine r_iload_n (pc := 139) dX12_text_139 rfl ?_
          refine r_if_eq (pc := 140) 147 dX12_text_140 (by decide) (fun c140 => ?_) (fun c140 => ?_)
          · skip
            first
            | exact absurd c140 (by decide)
            | skip
              refine r_bipush (pc := 147) (v := (-10)) dX12_text_147 (by decide) ?_
              refine r_iload (pc := 149) dX12_text_149 rfl ?_
              refine r_isub (pc := 151) dX12_text_151 ?_
              try rw [m10_sub (by omega)]
              refine r_ireturn (pc := 152) (ty := .int) dX12_text_152 rfl rfl ⟨Nat.zero_le _, Nat.zero_le _⟩ (fun gE hg => ?_)
              first
              | (have h7 := hP u hu hu2 kr
                 refine mR hg (h7 _ _ (q.to ⟨q3.2.2 4 (by omega), q3.2.2 5 (by omega), q3.2.2 9 (by omega), q3.2.2 26 (by omega)⟩ (fun i hi => (upA_n (by omega)).trans (upA_n (by omega))) ?_ ?_))
                 · rw [upA_s]; exact q.rk.ext2 ok fun j hj => by rw [upd_n (by omega), upd_n (by omega), f1 j (by omega)]
                 · rw [upA_s]
                   refine RMr_txt hu2 q.rr upd_s (by rw [upd_n (by omega), upd_s]) (fun j hj => by rw [upd_n (by omega), upd_n (by omega), f2 j (by omega)]; exact h97 j hj) (fun j hj h1 h2 h3 => by rw [upd_n h1, upd_n h2]; exact f1 j h3))
              | (have h7 := hF u hu hu2 kr
                 refine mR hg (h7 _ _ (q.to ⟨q3.2.2 4 (by omega), q3.2.2 5 (by omega), q3.2.2 9 (by omega), q3.2.2 26 (by omega)⟩ (fun i hi => (upA_n (by omega)).trans (upA_n (by omega))) ?_ ?_))
                 · rw [upA_s]; exact q.rk.ext2 ok fun j hj => by
                     rw [upd_n (by omega)]
                     exact (if_pos (by omega)).trans (if_pos (by omega))
                 · rw [upA_s]
                   refine RMr_tp q.rr ⟨⟨upd_s, fun j hj => absurd hj (Nat.not_lt_zero j)⟩, Nat.zero_le _⟩ (fun j hj h1 h2 => by
                     unfold RJ at hj
                     rw [upd_n h1]
                     exact (if_pos (by omega)).trans (if_pos (by omega))))
          · skip
            first
            | exact absurd rfl c140
            | skip
              refine r_iconst (pc := 143) (v := 1) dX12_text_143 (by decide) ?_
              refine r_goto (pc := 144) 152 dX12_text_144 (by decide) ?_
              try rw [m10_sub (by omega)]
              refine r_ireturn (pc := 152) (ty := .int) dX12_text_152 rfl rfl ⟨Nat.zero_le _, Nat.zero_le _⟩ (fun gE hg => ?_)
              first
              | (have h7 := hP u hu hu2 kr
                 refine mR hg (h7 _ _ (q.to ⟨q3.2.2 4 (by omega), q3.2.2 5 (by omega), q3.2.2 9 (by omega), q3.2.2 26 (by omega)⟩ (fun i hi => (upA_n (by omega)).trans (upA_n (by omega))) ?_ ?_))
                 · rw [upA_s]; exact q.rk.ext2 ok fun j hj => by rw [upd_n (by omega), upd_n (by omega), f1 j (by omega)]
                 · rw [upA_s]
                   refine RMr_txt hu2 q.rr upd_s (by rw [upd_n (by omega), upd_s]) (fun j hj => by rw [upd_n (by omega), upd_n (by omega), f2 j (by omega)]; exact h97 j hj) (fun j hj h1 h2 h3 => by rw [upd_n h1, upd_n h2]; exact f1 j h3))
              | (have h7 := hF u hu hu2 kr
                 refine mR hg (h7 _ _ (q.to ⟨q3.2.2 4 (by omega), q3.2.2 5 (by omega), q3.2.2 9 (by omega), q3.2.2 26 (by omega)⟩ (fun i hi => (upA_n (by omega)).trans (upA_n (by omega))) ?_ ?_))
                 · rw [upA_s]; exact q.rk.ext2 ok fun j hj => by
                     rw [upd_n (by omega)]
                     exact (if_pos (by omega)).trans (if_pos (by omega))
                 · rw [upA_s]
                   refine RMr_tp q.rr ⟨⟨upd_s, fun j hj => absurd hj (Nat.not_lt_zero j)⟩, Nat.zero_le _⟩ (fun j hj h1 h2 => by
                     unfold RJ at hj
                     rw [upd_n h1]
                     exact (if_pos (by omega)).trans (if_pos (by omega))))
      · skip
        first
        | exact absurd c116 (by decide)
        | skip
          refine r_aload_n (pc := 119) dX12_text_119 rfl ?_
          refine r_aload_n (pc := 120) dX12_text_120 rfl ?_
          refine r_getf (pc := 121) (k := 3) dX12_text_121 hX12 eX12 (by decide) fX12_19 (fun _ q => mo hm q) rfl ?_
          refine r_aload_n (pc := 124) dX12_text_124 rfl ?_
          refine r_getf (pc := 125) (k := 0) dX12_text_125 hX12 eX12 (by decide) fX12_7 (fun _ q => mo hm q) rfl ?_
          refine r_Vv (pc := 128) (μ' := mX12_moveAll) dX12_text_128 nX12_188 iX12_moveAll vX12_moveAll kX12_moveAll rfl rfl (rr (by omega) rfl) rfl ⟨Nat.zero_le _, Nat.zero_le _⟩ (fun _ q_ => cvq q_ (ct_M_moveAll hm 3 0 (by decide) (by decide) (by decide))) ?_
          refine aw_P (P' := MP m h s3 (upA (upA A 3 (mvF (A 0) (A 3))) 0 (mvF (mvF (A 0) (A 3)) (upd f (11 + u) (nI tp.length))))) (fun g qg => by rw [upA_2] at qg; exact qg) ?_
          refine r_aload_n (pc := 131) dX12_text_131 rfl ?_
          refine r_getf (pc := 132) (k := 0) dX12_text_132 hX12 eX12 (by decide) fX12_7 (fun _ q => mo hm q) rfl ?_
          refine r_bipush (pc := 135) (v := 9) dX12_text_135 (by decide) ?_
          refine r_iconst (pc := 137) (v := 0) dX12_text_137 (by decide) ?_
          refine r_rs (pc := 138) (j := 9) hm dX12_text_138 rfl (by decide) ?_
          refine r_iload_n (pc := 139) dX12_text_139 rfl ?_
          refine r_if_eq (pc := 140) 147 dX12_text_140 (by decide) (fun c140 => ?_) (fun c140 => ?_)
          · skip
            first
            | exact absurd c140 (by decide)
            | skip
              refine r_bipush (pc := 147) (v := (-10)) dX12_text_147 (by decide) ?_
              refine r_iload (pc := 149) dX12_text_149 rfl ?_
              refine r_isub (pc := 151) dX12_text_151 ?_
              try rw [m10_sub (by omega)]
              refine r_ireturn (pc := 152) (ty := .int) dX12_text_152 rfl rfl ⟨Nat.zero_le _, Nat.zero_le _⟩ (fun gE hg => ?_)
              first
              | (have h7 := hP u hu hu2 kr
                 refine mR hg (h7 _ _ (q.to ⟨q3.2.2 4 (by omega), q3.2.2 5 (by omega), q3.2.2 9 (by omega), q3.2.2 26 (by omega)⟩ (fun i hi => (upA_n (by omega)).trans (upA_n (by omega))) ?_ ?_))
                 · rw [upA_s]; exact q.rk.ext2 ok fun j hj => by rw [upd_n (by omega), upd_n (by omega), f1 j (by omega)]
                 · rw [upA_s]
                   refine RMr_txt hu2 q.rr upd_s (by rw [upd_n (by omega), upd_s]) (fun j hj => by rw [upd_n (by omega), upd_n (by omega), f2 j (by omega)]; exact h97 j hj) (fun j hj h1 h2 h3 => by rw [upd_n h1, upd_n h2]; exact f1 j h3))
              | (have h7 := hF u hu hu2 kr
                 refine mR hg (h7 _ _ (q.to ⟨q3.2.2 4 (by omega), q3.2.2 5 (by omega), q3.2.2 9 (by omega), q3.2.2 26 (by omega)⟩ (fun i hi => (upA_n (by omega)).trans (upA_n (by omega))) ?_ ?_))
                 · rw [upA_s]; exact q.rk.ext2 ok fun j hj => by
                     rw [upd_n (by omega)]
                     exact (if_pos (by omega)).trans (if_pos (by omega))
                 · rw [upA_s]
                   refine RMr_tp q.rr ⟨⟨upd_s, fun j hj => absurd hj (Nat.not_lt_zero j)⟩, Nat.zero_le _⟩ (fun j hj h1 h2 => by
                     unfold RJ at hj
                     rw [upd_n h1]
                     exact (if_pos (by omega)).trans (if_pos (by omega))))
          · skip
            first
            | exact absurd rfl c140
            | skip
              refine r_iconst (pc := 143) (v := 1) dX12_text_143 (by decide) ?_
              refine r_goto (pc := 144) 152 dX12_text_144 (by decide) ?_
              try rw [m10_sub (by omega)]
              refine r_ireturn (pc := 152) (ty := .int) dX12_text_152 rfl rfl ⟨Nat.zero_le _, Nat.zero_le _⟩ (fun gE hg => ?_)
              first
              | (have h7 := hP u hu hu2 kr
                 refine mR hg (h7 _ _ (q.to ⟨q3.2.2 4 (by omega), q3.2.2 5 (by omega), q3.2.2 9 (by omega), q3.2.2 26 (by omega)⟩ (fun i hi => (upA_n (by omega)).trans (upA_n (by omega))) ?_ ?_))
                 · rw [upA_s]; exact q.rk.ext2 ok fun j hj => by rw [upd_n (by omega), upd_n (by omega), f1 j (by omega)]
                 · rw [upA_s]
                   refine RMr_txt hu2 q.rr upd_s (by rw [upd_n (by omega), upd_s]) (fun j hj => by rw [upd_n (by omega), upd_n (by omega), f2 j (by omega)]; exact h97 j hj) (fun j hj h1 h2 h3 => by rw [upd_n h1, upd_n h2]; exact f1 j h3))
              | (have h7 := hF u hu hu2 kr
                 refine mR hg (h7 _ _ (q.to ⟨q3.2.2 4 (by omega), q3.2.2 5 (by omega), q3.2.2 9 (by omega), q3.2.2 26 (by omega)⟩ (fun i hi => (upA_n (by omega)).trans (upA_n (by omega))) ?_ ?_))
                 · rw [upA_s]; exact q.rk.ext2 ok fun j hj => by
                     rw [upd_n (by omega)]
                     exact (if_pos (by omega)).trans (if_pos (by omega))
                 · rw [upA_s]
                   refine RMr_tp q.rr ⟨⟨upd_s, fun j hj => absurd hj (Nat.not_lt_zero j)⟩, Nat.zero_le _⟩ (fun j hj h1 h2 => by
                     unfold RJ at hj
                     rw [upd_n h1]
                     exact (if_pos (by omega)).trans (if_pos (by omega))))
    · skip
      have kr : rdOk (nI u) tp = true := b2i_n0.mp c95
      refine r_iload_n (pc := 98) dX12_text_98 rfl ?_
      refine r_iload_n (pc := 99) dX12_text_99 rfl ?_
      refine r_icmp_ne (pc := 100) 107 dX12_text_100 (by decide) (fun c100 => ?_) (fun c100 => ?_)
      · skip
        exact absurd rfl c100
      · skip
        refine r_iconst (pc := 103) (v := 1) dX12_text_103 (by decide) ?_
        refine r_goto (pc := 104) 108 dX12_text_104 (by decide) ?_
        refine r_istore_n (pc := 108) dX12_text_108 rfl (Nat.le_of_ble_eq_true rfl) rfl ?_
        dsimp only [lset]
        refine r_aload_n (pc := 109) dX12_text_109 rfl ?_
        refine r_getf (pc := 110) (k := 11) dX12_text_110 hX12 eX12 (by decide) fX12_132 (fun _ q => mo hm q) rfl ?_
        rw [q3.2.1]
        refine r_istore (pc := 113) dX12_text_113 (Nat.le_of_ble_eq_true rfl) rfl ?_
        dsimp only [lset]
        refine r_iload_n (pc := 115) dX12_text_115 rfl ?_
        refine r_if_ne (pc := 116) 131 dX12_text_116 (by decide) (fun c116 => ?_) (fun c116 => ?_)
        · skip
          first
          | exact absurd rfl c116
          | skip
            refine r_aload_n (pc := 131) dX12_text_131 rfl ?_
            refine r_getf (pc := 132) (k := 0) dX12_text_132 hX12 eX12 (by decide) fX12_7 (fun _ q => mo hm q) rfl ?_
            refine r_bipush (pc := 135) (v := 9) dX12_text_135 (by decide) ?_
            refine r_iconst (pc := 137) (v := 0) dX12_text_137 (by decide) ?_
            refine r_rs (pc := 138) (j := 9) hm dX12_text_138 rfl (by decide) ?_
            refine r_iload_n (pc := 139) dX12_text_139 rfl ?_
            refine r_if_eq (pc := 140) 147 dX12_text_140 (by decide) (fun c140 => ?_) (fun c140 => ?_)
            · skip
              first
              | exact absurd c140 (by decide)
              | skip
                refine r_bipush (pc := 147) (v := (-10)) dX12_text_147 (by decide) ?_
                refine r_iload (pc := 149) dX12_text_149 rfl ?_
                refine r_isub (pc := 151) dX12_text_151 ?_
                try rw [m10_sub (by omega)]
                refine r_ireturn (pc := 152) (ty := .int) dX12_text_152 rfl rfl ⟨Nat.zero_le _, Nat.zero_le _⟩ (fun gE hg => ?_)
                first
                | (have h7 := hP u hu hu2 kr
                   refine mR hg (h7 _ _ (q.to ⟨q3.2.2 4 (by omega), q3.2.2 5 (by omega), q3.2.2 9 (by omega), q3.2.2 26 (by omega)⟩ (fun i hi => (upA_n (by omega)).trans (upA_n (by omega))) ?_ ?_))
                   · rw [upA_s]; exact q.rk.ext2 ok fun j hj => by rw [upd_n (by omega), upd_n (by omega), f1 j (by omega)]
                   · rw [upA_s]
                     refine RMr_txt hu2 q.rr upd_s (by rw [upd_n (by omega), upd_s]) (fun j hj => by rw [upd_n (by omega), upd_n (by omega), f2 j (by omega)]; exact h97 j hj) (fun j hj h1 h2 h3 => by rw [upd_n h1, upd_n h2]; exact f1 j h3))
                | (have h7 := hF u hu hu2 kr
                   refine mR hg (h7 _ _ (q.to ⟨q3.2.2 4 (by omega), q3.2.2 5 (by omega), q3.2.2 9 (by omega), q3.2.2 26 (by omega)⟩ (fun i hi => (upA_n (by omega)).trans (upA_n (by omega))) ?_ ?_))
                   · rw [upA_s]; exact q.rk.ext2 ok fun j hj => by
                       rw [upd_n (by omega)]
                       exact (if_pos (by omega)).trans (if_pos (by omega))
                   · rw [upA_s]
                     refine RMr_tp q.rr ⟨⟨upd_s, fun j hj => absurd hj (Nat.not_lt_zero j)⟩, Nat.zero_le _⟩ (fun j hj h1 h2 => by
                       unfold RJ at hj
                       rw [upd_n h1]
                       exact (if_pos (by omega)).trans (if_pos (by omega))))
            · skip
              first
              | exact absurd rfl c140
              | skip
                refine r_iconst (pc := 143) (v := 1) dX12_text_143 (by decide) ?_
                refine r_goto (pc := 144) 152 dX12_text_144 (by decide) ?_
                try rw [m10_sub (by omega)]
                refine r_ireturn (pc := 152) (ty := .int) dX12_text_152 rfl rfl ⟨Nat.zero_le _, Nat.zero_le _⟩ (fun gE hg => ?_)
                first
                | (have h7 := hP u hu hu2 kr
                   refine mR hg (h7 _ _ (q.to ⟨q3.2.2 4 (by omega), q3.2.2 5 (by omega), q3.2.2 9 (by omega), q3.2.2 26 (by omega)⟩ (fun i hi => (upA_n (by omega)).trans (upA_n (by omega))) ?_ ?_))
                   · rw [upA_s]; exact q.rk.ext2 ok fun j hj => by rw [upd_n (by omega), upd_n (by omega), f1 j (by omega)]
                   · rw [upA_s]
                     refine RMr_txt hu2 q.rr upd_s (by rw [upd_n (by omega), upd_s]) (fun j hj => by rw [upd_n (by omega), upd_n (by omega), f2 j (by omega)]; exact h97 j hj) (fun j hj h1 h2 h3 => by rw [upd_n h1, upd_n h2]; exact f1 j h3))
                | (have h7 := hF u hu hu2 kr
                   refine mR hg (h7 _ _ (q.to ⟨q3.2.2 4 (by omega), q3.2.2 5 (by omega), q3.2.2 9 (by omega), q3.2.2 26 (by omega)⟩ (fun i hi => (upA_n (by omega)).trans (upA_n (by omega))) ?_ ?_))
                   · rw [upA_s]; exact q.rk.ext2 ok fun j hj => by
                       rw [upd_n (by omega)]
                       exact (if_pos (by omega)).trans (if_pos (by omega))
                   · rw [upA_s]
                     refine RMr_tp q.rr ⟨⟨upd_s, fun j hj => absurd hj (Nat.not_lt_zero j)⟩, Nat.zero_le _⟩ (fun j hj h1 h2 => by
                       unfold RJ at hj
                       rw [upd_n h1]
                       exact (if_pos (by omega)).trans (if_pos (by omega))))
        · skip
          first
          | exact absurd c116 (by decide)
          | skip
            refine r_aload_n (pc := 119) dX12_text_119 rfl ?_
            refine r_aload_n (pc := 120) dX12_text_120 rfl ?_
            refine r_getf (pc := 121) (k := 3) dX12_text_121 hX12 eX12 (by decide) fX12_19 (fun _ q => mo hm q) rfl ?_
            refine r_aload_n (pc := 124) dX12_text_124 rfl ?_
            refine r_getf (pc := 125) (k := 0) dX12_text_125 hX12 eX12 (by decide) fX12_7 (fun _ q => mo hm q) rfl ?_
            refine r_Vv (pc := 128) (μ' := mX12_moveAll) dX12_text_128 nX12_188 iX12_moveAll vX12_moveAll kX12_moveAll rfl rfl (rr (by omega) rfl) rfl ⟨Nat.zero_le _, Nat.zero_le _⟩ (fun _ q_ => cvq q_ (ct_M_moveAll hm 3 0 (by decide) (by decide) (by decide))) ?_
            refine aw_P (P' := MP m h s3 (upA (upA A 3 (mvF (A 0) (A 3))) 0 (mvF (mvF (A 0) (A 3)) (upd f (11 + u) (nI tp.length))))) (fun g qg => by rw [upA_2] at qg; exact qg) ?_
            refine r_aload_n (pc := 131) dX12_text_131 rfl ?_
            refine r_getf (pc := 132) (k := 0) dX12_text_132 hX12 eX12 (by decide) fX12_7 (fun _ q => mo hm q) rfl ?_
            refine r_bipush (pc := 135) (v := 9) dX12_text_135 (by decide) ?_
            refine r_iconst (pc := 137) (v := 0) dX12_text_137 (by decide) ?_
            refine r_rs (pc := 138) (j := 9) hm dX12_text_138 rfl (by decide) ?_
            refine r_iload_n (pc := 139) dX12_text_139 rfl ?_
            refine r_if_eq (pc := 140) 147 dX12_text_140 (by decide) (fun c140 => ?_) (fun c140 => ?_)
            · skip
              first
              | exact absurd c140 (by decide)
              | skip
                refine r_bipush (pc := 147) (v := (-10)) dX12_text_147 (by decide) ?_
                refine r_iload (pc := 149) dX12_text_149 rfl ?_
                refine r_isub (pc := 151) dX12_text_151 ?_
                try rw [m10_sub (by omega)]
                refine r_ireturn (pc := 152) (ty := .int) dX12_text_152 rfl rfl ⟨Nat.zero_le _, Nat.zero_le _⟩ (fun gE hg => ?_)
                first
                | (have h7 := hP u hu hu2 kr
                   refine mR hg (h7 _ _ (q.to ⟨q3.2.2 4 (by omega), q3.2.2 5 (by omega), q3.2.2 9 (by omega), q3.2.2 26 (by omega)⟩ (fun i hi => (upA_n (by omega)).trans (upA_n (by omega))) ?_ ?_))
                   · rw [upA_s]; exact q.rk.ext2 ok fun j hj => by rw [upd_n (by omega), upd_n (by omega), f1 j (by omega)]
                   · rw [upA_s]
                     refine RMr_txt hu2 q.rr upd_s (by rw [upd_n (by omega), upd_s]) (fun j hj => by rw [upd_n (by omega), upd_n (by omega), f2 j (by omega)]; exact h97 j hj) (fun j hj h1 h2 h3 => by rw [upd_n h1, upd_n h2]; exact f1 j h3))
                | (have h7 := hF u hu hu2 kr
                   refine mR hg (h7 _ _ (q.to ⟨q3.2.2 4 (by omega), q3.2.2 5 (by omega), q3.2.2 9 (by omega), q3.2.2 26 (by omega)⟩ (fun i hi => (upA_n (by omega)).trans (upA_n (by omega))) ?_ ?_))
                   · rw [upA_s]; exact q.rk.ext2 ok fun j hj => by
                       rw [upd_n (by omega)]
                       exact (if_pos (by omega)).trans (if_pos (by omega))
                   · rw [upA_s]
                     refine RMr_tp q.rr ⟨⟨upd_s, fun j hj => absurd hj (Nat.not_lt_zero j)⟩, Nat.zero_le _⟩ (fun j hj h1 h2 => by
                       unfold RJ at hj
                       rw [upd_n h1]
                       exact (if_pos (by omega)).trans (if_pos (by omega))))
            · skip
              first
              | exact absurd rfl c140
              | skip
                refine r_iconst (pc := 143) (v := 1) dX12_text_143 (by decide) ?_
                refine r_goto (pc := 144) 152 dX12_text_144 (by decide) ?_
                try rw [m10_sub (by omega)]
                refine r_ireturn (pc := 152) (ty := .int) dX12_text_152 rfl rfl ⟨Nat.zero_le _, Nat.zero_le _⟩ (fun gE hg => ?_)
                first
                | (have h7 := hP u hu hu2 kr
                   refine mR hg (h7 _ _ (q.to ⟨q3.2.2 4 (by omega), q3.2.2 5 (by omega), q3.2.2 9 (by omega), q3.2.2 26 (by omega)⟩ (fun i hi => (upA_n (by omega)).trans (upA_n (by omega))) ?_ ?_))
                   · rw [upA_s]; exact q.rk.ext2 ok fun j hj => by rw [upd_n (by omega), upd_n (by omega), f1 j (by omega)]
                   · rw [upA_s]
                     refine RMr_txt hu2 q.rr upd_s (by rw [upd_n (by omega), upd_s]) (fun j hj => by rw [upd_n (by omega), upd_n (by omega), f2 j (by omega)]; exact h97 j hj) (fun j hj h1 h2 h3 => by rw [upd_n h1, upd_n h2]; exact f1 j h3))
                | (have h7 := hF u hu hu2 kr
                   refine mR hg (h7 _ _ (q.to ⟨q3.2.2 4 (by omega), q3.2.2 5 (by omega), q3.2.2 9 (by omega), q3.2.2 26 (by omega)⟩ (fun i hi => (upA_n (by omega)).trans (upA_n (by omega))) ?_ ?_))
                   · rw [upA_s]; exact q.rk.ext2 ok fun j hj => by
                       rw [upd_n (by omega)]
                       exact (if_pos (by omega)).trans (if_pos (by omega))
                   · rw [upA_s]
                     refine RMr_tp q.rr ⟨⟨upd_s, fun j hj => absurd hj (Nat.not_lt_zero j)⟩, Nat.zero_le _⟩ (fun j hj h1 h2 => by
                       unfold RJ at hj
                       rw [upd_n h1]
                       exact (if_pos (by omega)).trans (if_pos (by omega))))
  have L : ∀ u, a = nI u → u < 2 → ∀ x, x ≤ 50 → ∀ (f : Nat → Int32), (∀ y, ¬ (167 + 50 * u ≤ y ∧ y < 167 + 50 * u + 50) → f y = A 0 y) → (∀ j, j < x → f (167 + 50 * u + j) = A 0 (97 + j)) → AW (fun _ => True) (rmd 50 0 0) mX12_text 0 0 30 [some (.ref m), some (.int (nI u)), some (.int (nI x)), none, none] [] (MP m h s (upA (upA A 3 (mvF (A 0) (A 3))) 0 f)) Q := by
    intro u hu hu2
    refine up_loop ?_ ?_
    · intro f f1 f2
      refine r_iload_n (pc := 30) dX12_text_30 rfl ?_
      refine r_bipush (pc := 31) (v := 50) dX12_text_31 (by decide) ?_
      refine r_icmp_ge (pc := 33) 66 dX12_text_33 (by decide) (fun c33 => ?_) (fun c33 => ?_)
      · skip
        refine aw_dr 2 rfl ?_
        exact M u hu hu2 f f1 f2
      · skip
        exact absurd (by decide) c33
    · intro x hx ih f f1 f2
      have hT := nI_T (n := x) (by omega)
      refine r_iload_n (pc := 30) dX12_text_30 rfl ?_
      refine r_bipush (pc := 31) (v := 50) dX12_text_31 (by decide) ?_
      refine r_icmp_ge (pc := 33) 66 dX12_text_33 (by decide) (fun c33 => ?_) (fun c33 => ?_)
      · skip
        exact absurd c33 (fun y => by have := fa_le.mp y; rw [hT, show (50 : Int32).toInt = 50 from rfl] at this; omega)
      · skip
        refine r_aload_n (pc := 36) dX12_text_36 rfl ?_
        refine r_getf (pc := 37) (k := 0) dX12_text_37 hX12 eX12 (by decide) fX12_7 (fun _ q => mo hm q) rfl ?_
        refine r_sipush (pc := 40) (v := 167) dX12_text_40 (by decide) ?_
        refine r_bipush (pc := 43) (v := 50) dX12_text_43 (by decide) ?_
        refine r_iload_n (pc := 45) dX12_text_45 rfl ?_
        refine r_imul (pc := 46) dX12_text_46 ?_
        refine r_iadd (pc := 47) dX12_text_47 ?_
        rw [show (167 : Int32) + 50 * nI u = nI (167 + 50 * u) from ix2 167 50 u]
        refine r_iload_n (pc := 48) dX12_text_48 rfl ?_
        refine r_iadd (pc := 49) dX12_text_49 ?_
        rw [nI_add]
        refine r_aload_n (pc := 50) dX12_text_50 rfl ?_
        refine r_getf (pc := 51) (k := 0) dX12_text_51 hX12 eX12 (by decide) fX12_7 (fun _ q => mo hm q) rfl ?_
        refine r_bipush (pc := 54) (v := 97) dX12_text_54 (by decide) ?_
        refine r_iload_n (pc := 56) dX12_text_56 rfl ?_
        refine r_iadd (pc := 57) dX12_text_57 ?_
        rw [show (97 : Int32) + nI x = nI (97 + x) from nI_add 97 x]
        refine r_rl (pc := 58) (j := (97 + x)) hm dX12_text_58 (nI_T (by omega)) (show (97 + x) < 267 by omega) ?_
        rw [f1 (97 + x) (by omega)]
        refine r_rs (pc := 59) (j := (167 + 50 * u + x)) hm dX12_text_59 (nI_T (by omega)) (show (167 + 50 * u + x) < 267 by omega) ?_
        refine r_iinc1 (pc := 60) dX12_text_60 rfl (Nat.le_of_ble_eq_true rfl) rfl ?_
        dsimp only [lset]
        refine r_goto (pc := 63) 30 dX12_text_63 (by decide) ?_
        rw [nI_1]
        exact ih _ (fun y hy => by rw [upd_n (by omega)]; exact f1 y hy) (fun j hj => by
          by_cases e : j = x
          · rw [e, upd_s]
          · rw [upd_n (by omega)]; exact f2 j (by omega))
  refine aw_P (P' := MP m h s A) (fun _ q => q) ?_
  refine r_iload_n (pc := 0) dX12_text_0 rfl ?_
  refine r_iconst (pc := 1) (v := 0) dX12_text_1 (by decide) ?_
  refine r_iconst (pc := 2) (v := 1) dX12_text_2 (by decide) ?_
  refine r_Sp (pc := 3) (μ' := mX12_in) dX12_text_3 nX12_57 sX12_in kX12_in rfl rfl (rr (by omega) rfl) rfl ⟨Nat.zero_le _, Nat.zero_le _⟩ (fun h => ct_M_in h) ?_
  refine r_if_ne (pc := 6) 16 dX12_text_6 (by decide) (fun c6 => ?_) (fun c6 => ?_)
  · skip
    have k1 := b2i_n0.mp c6
    obtain ⟨u, hu, hu2⟩ : ∃ u, a = nI u ∧ u < 2 := by
      rcases wi01.mp k1 with e | e
      · exact ⟨0, e, by omega⟩
      · exact ⟨1, e, by omega⟩
    refine r_aload_n (pc := 16) dX12_text_16 rfl ?_
    refine r_aload_n (pc := 17) dX12_text_17 rfl ?_
    refine r_getf (pc := 18) (k := 0) dX12_text_18 hX12 eX12 (by decide) fX12_7 (fun _ q => mo hm q) rfl ?_
    refine r_aload_n (pc := 21) dX12_text_21 rfl ?_
    refine r_getf (pc := 22) (k := 3) dX12_text_22 hX12 eX12 (by decide) fX12_19 (fun _ q => mo hm q) rfl ?_
    refine r_Vv (pc := 25) (μ' := mX12_moveAll) dX12_text_25 nX12_188 iX12_moveAll vX12_moveAll kX12_moveAll rfl rfl (rr (by omega) rfl) rfl ⟨Nat.zero_le _, Nat.zero_le _⟩ (fun _ q_ => cvq q_ (ct_M_moveAll hm 0 3 (by decide) (by decide) (by decide))) ?_
    refine r_iconst (pc := 28) (v := 0) dX12_text_28 (by decide) ?_
    refine r_istore_n (pc := 29) dX12_text_29 rfl (Nat.le_of_ble_eq_true rfl) rfl ?_
    dsimp only [lset]
    refine aw_P (P' := MP m h s (upA (upA A 3 (mvF (A 0) (A 3))) 0 (A 0))) (fun g q => by rw [show upA (upA A 3 (mvF (A 0) (A 3))) 0 (A 0) = upA A 3 (mvF (A 0) (A 3)) from upA_id (A := upA A 3 (mvF (A 0) (A 3))) (i := 0)]; exact q) ?_
    rw [hu]
    exact L u hu hu2 0 (Nat.zero_le _) (A 0) (fun y _ => rfl) (fun j hj => absurd hj (Nat.not_lt_zero j))
  · skip
    have k1 := b2i_0.mp c6
    refine r_aload_n (pc := 9) dX12_text_9 rfl ?_
    refine r_ldc (pc := 10) (v := (-1000000001)) dX12_text_10 qX12_61 ?_
    refine r_Vi (pc := 12) (μ' := mX12_errs) dX12_text_12 nX12_62 iX12_errs vX12_errs kX12_errs rfl rfl (rr (by omega) rfl) rfl ⟨Nat.zero_le _, Nat.zero_le _⟩ (fun _ q_ => cvq q_ (ct_M_errs hm 1 (by decide) (by decide))) ?_
    rw [show (-1000000001 : Int32) = -1000000000 - 1 from rfl]
    refine r_ireturn (pc := 15) (ty := .int) dX12_text_15 rfl rfl ⟨Nat.zero_le _, Nat.zero_le _⟩ (fun gE hg => ?_)
    exact mR hg (e1 k1 _ _ (q.err (by decide) rfl))
end Mtext
