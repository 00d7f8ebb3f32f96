/-! THE REFERENCE, whole: settings, cells told, hands -/
section Mhands
variable {m : Nat} {h : AH} {K K2 : CK} {hs hs2 : List (Nat × Nat)} {tD tL tD2 tL2 : Option (List Int32)} {tp wa tp2 wa2 hd er lD lL : List Int32} {z im z2 : Int32} {k : MK} {bt : Nat → Int32} {sh : Nat → List Int32} {s s2 : Nat → Int32} {A A2 : Nat → Nat → Int32} {Q : Option Value → AH → Prop}
theorem setOk_wi (wv v : Int32) : setOk wv v = if wv = 0 then wiB v 0 9 else if wv = 1 then wiB v 0 99 else if wv = 2 then wiB v 0 99 else if wv = 3 then wiB v 1 99 else false := rfl
theorem set_wv {wv v : Int32} (h : setOk wv v = true) : ∃ w, wv = nI w ∧ w < 4 := by
  rw [setOk_wi] at h
  by_cases a : wv = 0
  · exact ⟨0, a, by omega⟩
  · rw [if_neg a] at h
    by_cases b : wv = 1
    · exact ⟨1, b, by omega⟩
    · rw [if_neg b] at h
      by_cases c : wv = 2
      · exact ⟨2, c, by omega⟩
      · rw [if_neg c] at h
        by_cases d : wv = 3
        · exact ⟨3, d, by omega⟩
        · rw [if_neg d] at h
          exact absurd h (by decide)
theorem RMk_set {f : Nat → Int32} {w v : Nat} (q : RMk K f) (hw : w < 4) : RMk (chK K (nI w) v) (upd f (3 + w) (nI v)) ∧ f (3 + w) = nI (chV K (nI w)) := by
  obtain ⟨ro, st, mi, he, le, wh, si, ca, w0, v0⟩ := K
  obtain ⟨q0, q1, q2, q3, q4, q5, q6, q7⟩ := q
  have hc : ∀ r s x, upd f (3 + w) x (25 + 2 * (r * st + s)) = f (25 + 2 * (r * st + s)) ∧ upd f (3 + w) x (26 + 2 * (r * st + s)) = f (26 + 2 * (r * st + s)) := fun r s x => ⟨upd_n (by omega), upd_n (by omega)⟩
  have hw4 : w = 0 ∨ w = 1 ∨ w = 2 ∨ w = 3 := by omega
  rcases hw4 with rfl | rfl | rfl | rfl
  · exact ⟨⟨(upd_n (by omega)).trans q0, (upd_n (by omega)).trans q1, (upd_n (by omega)).trans q2, upd_s, (upd_n (by omega)).trans q4, (upd_n (by omega)).trans q5, (upd_n (by omega)).trans q6, fun r s hr hs => ⟨(hc r s _).1.trans (q7 r s hr hs).1, (hc r s _).2.trans (q7 r s hr hs).2⟩⟩, q3⟩
  · exact ⟨⟨(upd_n (by omega)).trans q0, (upd_n (by omega)).trans q1, (upd_n (by omega)).trans q2, (upd_n (by omega)).trans q3, upd_s, (upd_n (by omega)).trans q5, (upd_n (by omega)).trans q6, fun r s hr hs => ⟨(hc r s _).1.trans (q7 r s hr hs).1, (hc r s _).2.trans (q7 r s hr hs).2⟩⟩, q4⟩
  · exact ⟨⟨(upd_n (by omega)).trans q0, (upd_n (by omega)).trans q1, (upd_n (by omega)).trans q2, (upd_n (by omega)).trans q3, (upd_n (by omega)).trans q4, upd_s, (upd_n (by omega)).trans q6, fun r s hr hs => ⟨(hc r s _).1.trans (q7 r s hr hs).1, (hc r s _).2.trans (q7 r s hr hs).2⟩⟩, q5⟩
  · exact ⟨⟨(upd_n (by omega)).trans q0, (upd_n (by omega)).trans q1, (upd_n (by omega)).trans q2, (upd_n (by omega)).trans q3, (upd_n (by omega)).trans q4, (upd_n (by omega)).trans q5, upd_s, fun r s hr hs => ⟨(hc r s _).1.trans (q7 r s hr hs).1, (hc r s _).2.trans (q7 r s hr hs).2⟩⟩, q6⟩
set_option maxHeartbeats 4000000 in
theorem cm_set (hm : m + 14 < h.1) {wv v : Int32} (q : MG K hs tD tL tp wa z k bt sh hd er im s A) (e1 : setOk wv v = false → ∀ s2 A2, MG K hs tD tL tp wa z k bt sh hd (errL er 1) im s2 A2 → Q (some (.int (-1000000000 - 1))) (mh m h s2 A2)) (hP : setOk wv v = true → ∀ s2 A2, MG (chK K wv v.toInt.toNat) hs tD tL tp wa z k bt sh hd er im s2 A2 → Q (some (.int (nI (chV K wv)))) (mh m h s2 A2)) : CV 4 0 0 mX12_set m [.int wv, .int v] (mh m h s A) Q := by
  refine ⟨mV hm, ?_⟩
  refine ct_of (by decide) (fun _ _ => Nat.le_of_ble_eq_true rfl) ?_
  dsimp only [pad, ent]
  have T : ∀ B : Bool, setOk wv v = B → AW (fun _ => True) (rmd 4 0 0) mX12_set 0 0 54 [some (.ref m), some (.int wv), some (.int v), none, none] [.int (b2i B)] (MP m h s A) Q := by
    intro B hB
    refine r_istore_n (pc := 54) dX12_set_54 rfl (Nat.le_of_ble_eq_true rfl) rfl ?_
    dsimp only [lset]
    refine r_iload_n (pc := 55) dX12_set_55 rfl ?_
    refine r_if_ne (pc := 56) 66 dX12_set_56 (by decide) (fun c56 => ?_) (fun c56 => ?_)
    · skip
      have k1 : setOk wv v = true := by rw [hB]; exact b2i_n0.mp c56
      obtain ⟨w, hw, hw4⟩ := set_wv k1
      have hv := set_rng k1
      have h1 : v = nI v.toInt.toNat := (nI_tn (by omega) (by omega)).symm
      obtain ⟨n, hn⟩ : ∃ n, n = v.toInt.toNat := ⟨_, rfl⟩
      have h7 := hP k1
      rw [← hn] at h1 h7
      obtain ⟨u1, u2⟩ := RMk_set (v := n) q.rk hw4
      rw [hw] at h7
      refine r_aload_n (pc := 66) dX12_set_66 rfl ?_
      refine r_getf (pc := 67) (k := 0) dX12_set_67 hX12 eX12 (by decide) fX12_7 (fun _ q => mo hm q) rfl ?_
      refine r_iconst (pc := 70) (v := 3) dX12_set_70 (by decide) ?_
      refine r_iload_n (pc := 71) dX12_set_71 rfl ?_
      refine r_iadd (pc := 72) dX12_set_72 ?_
      rw [show (3 : Int32) + wv = nI (3 + w) by rw [hw]; exact nI_add 3 w]
      refine r_ml (pc := 73) (i := 0) (j := (3 + w)) hm dX12_set_73 (by decide) (nI_T (by omega)) (show (3 + w) < 267 by omega) ?_
      rw [u2]
      refine r_istore (pc := 74) dX12_set_74 (Nat.le_of_ble_eq_true rfl) rfl ?_
      dsimp only [lset]
      refine r_aload_n (pc := 76) dX12_set_76 rfl ?_
      refine r_getf (pc := 77) (k := 0) dX12_set_77 hX12 eX12 (by decide) fX12_7 (fun _ q => mo hm q) rfl ?_
      refine r_iconst (pc := 80) (v := 3) dX12_set_80 (by decide) ?_
      refine r_iload_n (pc := 81) dX12_set_81 rfl ?_
      refine r_iadd (pc := 82) dX12_set_82 ?_
      rw [show (3 : Int32) + wv = nI (3 + w) by rw [hw]; exact nI_add 3 w]
      refine r_iload_n (pc := 83) dX12_set_83 rfl ?_
      rw [h1]
      refine r_ms (pc := 84) (i := 0) (j := (3 + w)) hm dX12_set_84 (by decide) (nI_T (by omega)) (show (3 + w) < 267 by omega) ?_
      refine r_iload (pc := 85) dX12_set_85 rfl ?_
      refine r_ireturn (pc := 87) (ty := .int) dX12_set_87 rfl rfl ⟨Nat.zero_le _, Nat.zero_le _⟩ (fun gE hg => ?_)
      exact mR hg (h7 _ _ (q.row u1 (q.rr.ext fun j hj => upd_n (by unfold RJ at hj; omega))))
    · skip
      have k1 : setOk wv v = false := by rw [hB]; exact b2i_0.mp c56
      refine r_aload_n (pc := 59) dX12_set_59 rfl ?_
      refine r_ldc (pc := 60) (v := (-1000000001)) dX12_set_60 qX12_61 ?_
      refine r_Vi (pc := 62) (μ' := mX12_errs) dX12_set_62 nX12_62 iX12_errs vX12_errs kX12_errs rfl rfl (rr (by decide) rfl) rfl ⟨Nat.zero_le _, Nat.zero_le _⟩ (fun _ q_ => cvq q_ (ct_M_errs hm 1 (by decide) (by decide))) ?_
      rw [show (-1000000001 : Int32) = -1000000000 - 1 from rfl]
      refine r_ireturn (pc := 65) (ty := .int) dX12_set_65 rfl rfl ⟨Nat.zero_le _, Nat.zero_le _⟩ (fun gE hg => ?_)
      exact mR hg (e1 k1 _ _ (q.err (by decide) rfl))
  refine aw_P (P' := MP m h s A) (fun _ q => q) ?_
  refine r_iload_n (pc := 0) dX12_set_0 rfl ?_
  refine r_if_ne (pc := 1) 14 dX12_set_1 (by decide) (fun c1 => ?_) (fun c1 => ?_)
  · skip
    refine r_iload_n (pc := 14) dX12_set_14 rfl ?_
    refine r_iconst (pc := 15) (v := 1) dX12_set_15 (by decide) ?_
    refine r_icmp_eq (pc := 16) 24 dX12_set_16 (by decide) (fun c16 => ?_) (fun c16 => ?_)
    · skip
      refine r_iload_n (pc := 24) dX12_set_24 rfl ?_
      refine r_iconst (pc := 25) (v := 0) dX12_set_25 (by decide) ?_
      refine r_bipush (pc := 26) (v := 99) dX12_set_26 (by decide) ?_
      refine r_Sp (pc := 28) (μ' := mX12_in) dX12_set_28 nX12_57 sX12_in kX12_in rfl rfl (rr (by decide) rfl) rfl ⟨Nat.zero_le _, Nat.zero_le _⟩ (fun h => ct_M_in h) ?_
      refine r_goto (pc := 31) 54 dX12_set_31 (by decide) ?_
      first
      | exact T _ (by rw [setOk_wi, if_pos c1])
      | exact T _ (by rw [setOk_wi, if_neg c1, if_pos c16])
      | exact T _ (by rw [setOk_wi, if_neg c1, if_neg c16, if_pos c21])
      | exact T true (by rw [setOk_wi, if_neg c1, if_neg c16, if_neg c21, if_pos c36]; exact b2i_n0.mp c46)
      | exact T false (by rw [setOk_wi, if_neg c1, if_neg c16, if_neg c21, if_pos c36]; exact b2i_0.mp c46)
      | exact T false (by rw [setOk_wi, if_neg c1, if_neg c16, if_neg c21, if_neg c36])
    · skip
      refine r_iload_n (pc := 19) dX12_set_19 rfl ?_
      refine r_iconst (pc := 20) (v := 2) dX12_set_20 (by decide) ?_
      refine r_icmp_ne (pc := 21) 34 dX12_set_21 (by decide) (fun c21 => ?_) (fun c21 => ?_)
      · skip
        refine r_iload_n (pc := 34) dX12_set_34 rfl ?_
        refine r_iconst (pc := 35) (v := 3) dX12_set_35 (by decide) ?_
        refine r_icmp_ne (pc := 36) 53 dX12_set_36 (by decide) (fun c36 => ?_) (fun c36 => ?_)
        · skip
          refine r_iconst (pc := 53) (v := 0) dX12_set_53 (by decide) ?_
          first
          | exact T _ (by rw [setOk_wi, if_pos c1])
          | exact T _ (by rw [setOk_wi, if_neg c1, if_pos c16])
          | exact T _ (by rw [setOk_wi, if_neg c1, if_neg c16, if_pos c21])
          | exact T true (by rw [setOk_wi, if_neg c1, if_neg c16, if_neg c21, if_pos c36]; exact b2i_n0.mp c46)
          | exact T false (by rw [setOk_wi, if_neg c1, if_neg c16, if_neg c21, if_pos c36]; exact b2i_0.mp c46)
          | exact T false (by rw [setOk_wi, if_neg c1, if_neg c16, if_neg c21, if_neg c36])
        · skip
          refine r_iload_n (pc := 39) dX12_set_39 rfl ?_
          refine r_iconst (pc := 40) (v := 1) dX12_set_40 (by decide) ?_
          refine r_bipush (pc := 41) (v := 99) dX12_set_41 (by decide) ?_
          refine r_Sp (pc := 43) (μ' := mX12_in) dX12_set_43 nX12_57 sX12_in kX12_in rfl rfl (rr (by decide) rfl) rfl ⟨Nat.zero_le _, Nat.zero_le _⟩ (fun h => ct_M_in h) ?_
          refine r_if_eq (pc := 46) 53 dX12_set_46 (by decide) (fun c46 => ?_) (fun c46 => ?_)
          · skip
            refine r_iconst (pc := 53) (v := 0) dX12_set_53 (by decide) ?_
            first
            | exact T _ (by rw [setOk_wi, if_pos c1])
            | exact T _ (by rw [setOk_wi, if_neg c1, if_pos c16])
            | exact T _ (by rw [setOk_wi, if_neg c1, if_neg c16, if_pos c21])
            | exact T true (by rw [setOk_wi, if_neg c1, if_neg c16, if_neg c21, if_pos c36]; exact b2i_n0.mp c46)
            | exact T false (by rw [setOk_wi, if_neg c1, if_neg c16, if_neg c21, if_pos c36]; exact b2i_0.mp c46)
            | exact T false (by rw [setOk_wi, if_neg c1, if_neg c16, if_neg c21, if_neg c36])
          · skip
            refine r_iconst (pc := 49) (v := 1) dX12_set_49 (by decide) ?_
            refine r_goto (pc := 50) 54 dX12_set_50 (by decide) ?_
            first
            | exact T _ (by rw [setOk_wi, if_pos c1])
            | exact T _ (by rw [setOk_wi, if_neg c1, if_pos c16])
            | exact T _ (by rw [setOk_wi, if_neg c1, if_neg c16, if_pos c21])
            | exact T true (by rw [setOk_wi, if_neg c1, if_neg c16, if_neg c21, if_pos c36]; exact b2i_n0.mp c46)
            | exact T false (by rw [setOk_wi, if_neg c1, if_neg c16, if_neg c21, if_pos c36]; exact b2i_0.mp c46)
            | exact T false (by rw [setOk_wi, if_neg c1, if_neg c16, if_neg c21, if_neg c36])
      · skip
        refine r_iload_n (pc := 24) dX12_set_24 rfl ?_
        refine r_iconst (pc := 25) (v := 0) dX12_set_25 (by decide) ?_
        refine r_bipush (pc := 26) (v := 99) dX12_set_26 (by decide) ?_
        refine r_Sp (pc := 28) (μ' := mX12_in) dX12_set_28 nX12_57 sX12_in kX12_in rfl rfl (rr (by decide) rfl) rfl ⟨Nat.zero_le _, Nat.zero_le _⟩ (fun h => ct_M_in h) ?_
        refine r_goto (pc := 31) 54 dX12_set_31 (by decide) ?_
        first
        | exact T _ (by rw [setOk_wi, if_pos c1])
        | exact T _ (by rw [setOk_wi, if_neg c1, if_pos c16])
        | exact T _ (by rw [setOk_wi, if_neg c1, if_neg c16, if_pos c21])
        | exact T true (by rw [setOk_wi, if_neg c1, if_neg c16, if_neg c21, if_pos c36]; exact b2i_n0.mp c46)
        | exact T false (by rw [setOk_wi, if_neg c1, if_neg c16, if_neg c21, if_pos c36]; exact b2i_0.mp c46)
        | exact T false (by rw [setOk_wi, if_neg c1, if_neg c16, if_neg c21, if_neg c36])
  · skip
    refine r_iload_n (pc := 4) dX12_set_4 rfl ?_
    refine r_iconst (pc := 5) (v := 0) dX12_set_5 (by decide) ?_
    refine r_bipush (pc := 6) (v := 9) dX12_set_6 (by decide) ?_
    refine r_Sp (pc := 8) (μ' := mX12_in) dX12_set_8 nX12_57 sX12_in kX12_in rfl rfl (rr (by decide) rfl) rfl ⟨Nat.zero_le _, Nat.zero_le _⟩ (fun h => ct_M_in h) ?_
    refine r_goto (pc := 11) 54 dX12_set_11 (by decide) ?_
    first
    | exact T _ (by rw [setOk_wi, if_pos c1])
    | exact T _ (by rw [setOk_wi, if_neg c1, if_pos c16])
    | exact T _ (by rw [setOk_wi, if_neg c1, if_neg c16, if_pos c21])
    | exact T true (by rw [setOk_wi, if_neg c1, if_neg c16, if_neg c21, if_pos c36]; exact b2i_n0.mp c46)
    | exact T false (by rw [setOk_wi, if_neg c1, if_neg c16, if_neg c21, if_pos c36]; exact b2i_0.mp c46)
    | exact T false (by rw [setOk_wi, if_neg c1, if_neg c16, if_neg c21, if_neg c36])
theorem MG.se (q : MG K hs tD tL tp wa z k bt sh hd er im s A) (hD : TR 0 tD lD) (hL : TR 1 tL lL) : SE K lD lL s A := ⟨q.rk, ⟨tD, q.rr.2.2.1, hD⟩, ⟨tL, q.rr.2.2.2.1, hL⟩, Or.inl q.2.2.1.2.2⟩
theorem cel_t {a : Int32} (ok : KOk K) (h : celB K a = true) : ∃ c, a = nI c ∧ c < kRo K * kSt K := by
  have h2 : kSt K ≤ 6 := ok.2.1.2
  have h1 : kRo K ≤ 6 := ok.1.2
  have h36 : kRo K * kSt K ≤ 6 * 6 := Nat.mul_le_mul h1 h2
  have k3 := of_decide_eq_true h
  rw [← Int.natCast_mul] at k3
  exact ⟨a.toInt.toNat, (nI_tn (by omega) (by omega)).symm, by omega⟩
theorem smB_sb (ok : KOk K) (dr : Nat → Nat → Nat) {c : Nat} (hc : c < kRo K * kSt K) : smB K dr c = seamB K dr (c / kSt K) (c % kSt K) (c % kSt K) (c % kSt K + 1) 0 := by
  unfold smB
  by_cases e : c % kSt K + 1 < kSt K
  · rw [decide_eq_true e, Bool.true_and]
  · rw [decide_eq_false e, Bool.false_and]
    unfold seamB
    rw [if_pos (Or.inr (by unfold wE; rw [if_neg e]; decide))]
set_option maxHeartbeats 4000000 in
theorem cm_ofCell (hm : m + 14 < h.1) {a b : Int32} (q : MG K hs tD tL tp wa z k bt sh hd er im s A) (ok : KOk K) (wb : WB K) (hD : TR 0 tD lD) (hL : TR 1 tL lL) (e1 : (celB K a && wiB b 0 3) = false → ∀ s2 A2, MG K hs tD tL tp wa z k bt sh hd (errL er 1) im s2 A2 → Q (some (.int (-1000000000 - 1))) (mh m h s2 A2)) (hP : ∀ c, a = nI c → c < kRo K * kSt K → wiB b 0 3 = true → ∀ s2 A2, MG K hs tD tL tp wa z k bt sh hd er im s2 A2 → Q (some (.int (ocI K lD c b))) (mh m h s2 A2)) : CV 50 0 0 mX12_ofCell m [.int a, .int b] (mh m h s A) Q := by
  refine ⟨mV hm, ?_⟩
  refine ct_of (by decide) (fun _ _ => Nat.le_of_ble_eq_true rfl) ?_
  dsimp only [pad, ent]
  refine aw_P (P' := MP m h s A) (fun _ q => q) ?_
  have hst : 1 ≤ kSt K ∧ kSt K ≤ 6 := ok.2.1
  have hro : 1 ≤ kRo K ∧ kRo K ≤ 6 := ok.1
  have h36 : kRo K * kSt K ≤ 6 * 6 := Nat.mul_le_mul (by omega) (by omega)
  have q1 := q.se hD hL
  refine r_aload_n (pc := 0) dX12_ofCell_0 rfl ?_
  refine r_iload_n (pc := 1) dX12_ofCell_1 rfl ?_
  refine r_Vi (pc := 2) (μ' := mX12_isCell) dX12_ofCell_2 nX12_91 iX12_isCell vX12_isCell kX12_isCell rfl rfl (rr (by omega) rfl) rfl ⟨Nat.zero_le _, Nat.zero_le _⟩ (fun _ q_ => cvq q_ (ct_M_isCell hm)) ?_
  rw [q.ceb ok]
  refine r_if_eq (pc := 5) 17 dX12_ofCell_5 (by decide) (fun c5 => ?_) (fun c5 => ?_)
  · skip
    have k1 := b2i_0.mp c5
    refine r_aload_n (pc := 17) dX12_ofCell_17 rfl ?_
    refine r_ldc (pc := 18) (v := (-1000000001)) dX12_ofCell_18 qX12_61 ?_
    refine r_Vi (pc := 20) (μ' := mX12_errs) dX12_ofCell_20 nX12_62 iX12_errs vX12_errs kX12_errs rfl rfl (rr (by omega) rfl) rfl ⟨Nat.zero_le _, Nat.zero_le _⟩ (fun _ q_ => cvq q_ (ct_M_errs hm 1 (by decide) (by decide))) ?_
    rw [show (-1000000001 : Int32) = -1000000000 - 1 from rfl]
    refine r_ireturn (pc := 23) (ty := .int) dX12_ofCell_23 rfl rfl ⟨Nat.zero_le _, Nat.zero_le _⟩ (fun gE hg => ?_)
    exact mR hg (e1 (by first | (rw [k1]; rfl) | (rw [k1, k2]; rfl)) _ _ (q.err (by decide) rfl))
  · skip
    have k1 := b2i_n0.mp c5
    obtain ⟨c, hc, hc2⟩ := cel_t ok k1
    have cc := q.rk.cell hc2 (by omega)
    refine r_iload_n (pc := 8) dX12_ofCell_8 rfl ?_
    refine r_iconst (pc := 9) (v := 0) dX12_ofCell_9 (by decide) ?_
    refine r_iconst (pc := 10) (v := 3) dX12_ofCell_10 (by decide) ?_
    refine r_Sp (pc := 11) (μ' := mX12_in) dX12_ofCell_11 nX12_57 sX12_in kX12_in rfl rfl (rr (by omega) rfl) rfl ⟨Nat.zero_le _, Nat.zero_le _⟩ (fun h => ct_M_in h) ?_
    refine r_if_ne (pc := 14) 24 dX12_ofCell_14 (by decide) (fun c14 => ?_) (fun c14 => ?_)
    · skip
      have k2 := b2i_n0.mp c14
      have h7 := hP c hc hc2 k2
      refine r_iload_n (pc := 24) dX12_ofCell_24 rfl ?_
      refine r_if_ne (pc := 25) 36 dX12_ofCell_25 (by decide) (fun c25 => ?_) (fun c25 => ?_)
      · skip
        refine r_iload_n (pc := 36) dX12_ofCell_36 rfl ?_
        refine r_iconst (pc := 37) (v := 1) dX12_ofCell_37 (by decide) ?_
        refine r_icmp_ne (pc := 38) 49 dX12_ofCell_38 (by decide) (fun c38 => ?_) (fun c38 => ?_)
        · skip
          refine r_iload_n (pc := 49) dX12_ofCell_49 rfl ?_
          refine r_iconst (pc := 50) (v := 2) dX12_ofCell_50 (by decide) ?_
          refine r_icmp_ne (pc := 51) 62 dX12_ofCell_51 (by decide) (fun c51 => ?_) (fun c51 => ?_)
          · skip
            rw [show ocI K lD c b = b2i (seamB K (drL lD (kHe K)) (c / kSt K) (c % kSt K) (c % kSt K) (c % kSt K + 1) 0) by unfold ocI; rw [if_neg c25, if_neg c38, if_neg c51], ← smB_sb ok _ hc2] at h7
            refine r_aload_n (pc := 62) dX12_ofCell_62 rfl ?_
            refine r_iload_n (pc := 63) dX12_ofCell_63 rfl ?_
            rw [hc]
            refine r_Vi (pc := 64) (μ' := mX12_seamAt) dX12_ofCell_64 nX12_94 iX12_seamAt vX12_seamAt kX12_seamAt rfl rfl (rr (by omega) rfl) rfl ⟨Nat.zero_le _, Nat.zero_le _⟩ (fun _ q_ => cvq q_ (ct_M_seamAt hm ok wb q1 hc2)) ?_
            try refine aw_ex fun s3 => aw_pr fun q3 => ?_
            refine r_ireturn (pc := 67) (ty := .int) dX12_ofCell_67 rfl rfl ⟨Nat.zero_le _, Nat.zero_le _⟩ (fun gE hg => ?_)
            first
            | exact mR hg (h7 _ _ (q.scr q3))
            | exact mR hg (h7 _ _ q)
          · skip
            rw [show ocI K lD c b = nI (drL lD (kHe K) (c / kSt K) (c % kSt K)) by rw [c51]; rfl] at h7
            refine r_aload_n (pc := 54) dX12_ofCell_54 rfl ?_
            refine r_iload_n (pc := 55) dX12_ofCell_55 rfl ?_
            rw [hc]
            refine r_Vi (pc := 56) (μ' := mX12_driesAt) dX12_ofCell_56 nX12_78 iX12_driesAt vX12_driesAt kX12_driesAt rfl rfl (rr (by omega) rfl) rfl ⟨Nat.zero_le _, Nat.zero_le _⟩ (fun _ q_ => cvq q_ (ct_M_driesAt hm ok q1 hc2)) ?_
            refine aw_ex fun s3 => aw_pr fun q3 => ?_
            refine r_goto (pc := 59) 67 dX12_ofCell_59 (by decide) ?_
            try refine aw_ex fun s3 => aw_pr fun q3 => ?_
            refine r_ireturn (pc := 67) (ty := .int) dX12_ofCell_67 rfl rfl ⟨Nat.zero_le _, Nat.zero_le _⟩ (fun gE hg => ?_)
            first
            | exact mR hg (h7 _ _ (q.scr q3))
            | exact mR hg (h7 _ _ q)
        · skip
          rw [show ocI K lD c b = nI (kV K (c / kSt K) (c % kSt K)) by rw [c38]; rfl] at h7
          refine r_aload_n (pc := 41) dX12_ofCell_41 rfl ?_
          refine r_iload_n (pc := 42) dX12_ofCell_42 rfl ?_
          rw [hc]
          refine r_Vi (pc := 43) (μ' := mX12_whiteOf) dX12_ofCell_43 nX12_84 iX12_whiteOf vX12_whiteOf kX12_whiteOf rfl rfl (rr (by omega) rfl) rfl ⟨Nat.zero_le _, Nat.zero_le _⟩ (fun _ q_ => cvq q_ (ct_M_whiteOf hm (show c < 36 by omega))) ?_
          rw [cc.2]
          refine r_goto (pc := 46) 67 dX12_ofCell_46 (by decide) ?_
          try refine aw_ex fun s3 => aw_pr fun q3 => ?_
          refine r_ireturn (pc := 67) (ty := .int) dX12_ofCell_67 rfl rfl ⟨Nat.zero_le _, Nat.zero_le _⟩ (fun gE hg => ?_)
          first
          | exact mR hg (h7 _ _ (q.scr q3))
          | exact mR hg (h7 _ _ q)
      · skip
        rw [show ocI K lD c b = iI (kW K (c / kSt K) (c % kSt K)) by rw [c25]; rfl] at h7
        refine r_aload_n (pc := 28) dX12_ofCell_28 rfl ?_
        refine r_iload_n (pc := 29) dX12_ofCell_29 rfl ?_
        rw [hc]
        refine r_Vi (pc := 30) (μ' := mX12_whenOf) dX12_ofCell_30 nX12_81 iX12_whenOf vX12_whenOf kX12_whenOf rfl rfl (rr (by omega) rfl) rfl ⟨Nat.zero_le _, Nat.zero_le _⟩ (fun _ q_ => cvq q_ (ct_M_whenOf hm (show c < 36 by omega))) ?_
        rw [cc.1]
        refine r_goto (pc := 33) 67 dX12_ofCell_33 (by decide) ?_
        try refine aw_ex fun s3 => aw_pr fun q3 => ?_
        refine r_ireturn (pc := 67) (ty := .int) dX12_ofCell_67 rfl rfl ⟨Nat.zero_le _, Nat.zero_le _⟩ (fun gE hg => ?_)
        first
        | exact mR hg (h7 _ _ (q.scr q3))
        | exact mR hg (h7 _ _ q)
    · skip
      have k2 := b2i_0.mp c14
      refine r_aload_n (pc := 17) dX12_ofCell_17 rfl ?_
      refine r_ldc (pc := 18) (v := (-1000000001)) dX12_ofCell_18 qX12_61 ?_
      refine r_Vi (pc := 20) (μ' := mX12_errs) dX12_ofCell_20 nX12_62 iX12_errs vX12_errs kX12_errs rfl rfl (rr (by omega) rfl) rfl ⟨Nat.zero_le _, Nat.zero_le _⟩ (fun _ q_ => cvq q_ (ct_M_errs hm 1 (by decide) (by decide))) ?_
      rw [show (-1000000001 : Int32) = -1000000000 - 1 from rfl]
      refine r_ireturn (pc := 23) (ty := .int) dX12_ofCell_23 rfl rfl ⟨Nat.zero_le _, Nat.zero_le _⟩ (fun gE hg => ?_)
      exact mR hg (e1 (by first | (rw [k1]; rfl) | (rw [k1, k2]; rfl)) _ _ (q.err (by decide) rfl))
theorem hs_rm {f : Nat → Int32} (q : RMr hs tD tL tp wa z f) {i : Nat} (hi : i < hs.length) : f (13 + 2 * i) = nI (hKd hs i) ∧ f (14 + 2 * i) = nI (hMn hs i) := q.2.1.1.2 i hi
theorem getD_appP {l : List (Nat × Nat)} {x : Nat × Nat} {j : Nat} (h : j < l.length + 1) : (l ++ [x]).getD j (0, 0) = if j = l.length then x else l.getD j (0, 0) := by
  rw [List.getD_eq_getElem?_getD, List.getD_eq_getElem?_getD]
  by_cases e : j = l.length
  · subst e; simp
  · rw [if_neg e, List.getElem?_append_left (by omega)]
theorem getD_setP {l : List (Nat × Nat)} {n j : Nat} {v : Nat × Nat} (h : n < l.length) : (l.set n v).getD j (0, 0) = if j = n then v else l.getD j (0, 0) := by
  rw [List.getD_eq_getElem?_getD, List.getElem?_set, List.getD_eq_getElem?_getD]
  by_cases e : j = n
  · subst e; simp [h]
  · rw [if_neg (Ne.symm e), if_neg e]
theorem RMr_hs {f f2 : Nat → Int32} (q : RMr hs tD tL tp wa z f) (h6 : hs2.length ≤ 6) (h8 : f2 8 = nI hs2.length) (hh : ∀ i, i < hs2.length → f2 (13 + 2 * i) = nI (hKd hs2 i) ∧ f2 (14 + 2 * i) = nI (hMn hs2 i)) (ho : ∀ j, (j = 7 ∨ (9 ≤ j ∧ j < 13) ∨ 97 ≤ j) → f2 j = f j) : RMr hs2 tD tL tp wa z f2 := by
  obtain ⟨q1, -, q4, q5, ⟨q6, q7⟩, q8, q9⟩ := q
  refine ⟨(ho 7 (by omega)).trans q1, ⟨⟨h8, hh⟩, h6⟩, ?_, ?_, ⟨⟨(ho 9 (by omega)).trans q6.1, fun j hj => (ho _ (by omega)).trans (q6.2 j hj)⟩, q7⟩, ⟨(ho 10 (by omega)).trans q8.1, fun j hj => (ho _ (by omega)).trans (q8.2 j hj)⟩, q9⟩
  · rw [ho 11 (by omega)]; exact q4.ext fun j hj => ho _ (by omega)
  · rw [ho 12 (by omega)]; exact q5.ext fun j hj => ho _ (by omega)
set_option maxHeartbeats 4000000 in
theorem cm_hand (hm : m + 14 < h.1) {a : Int32} (q : MG K hs tD tL tp wa z k bt sh hd er im s A) (ok : KOk K) (e1 : kmB a = false → ∀ s2 A2, MG K hs tD tL tp wa z k bt sh hd (errL er 1) im s2 A2 → Q (some (.int (-1000000000 - 1))) (mh m h s2 A2)) (e4 : kmB a = true → hs.length = 6 → ∀ s2 A2, MG K hs tD tL tp wa z k bt sh hd (errL er 4) im s2 A2 → Q (some (.int (-1000000000 - 4))) (mh m h s2 A2)) (hP : ∀ n, a = nI n → n < 70 → hs.length < 6 → ∀ s2 A2, MG K (hs ++ [(n / 10, n % 10)]) tD tL tp wa z k bt sh hd er im s2 A2 → Q (some (.int (nI hs.length))) (mh m h s2 A2)) : CV 4 0 0 mX12_hand m [.int a] (mh m h s A) Q := by
  refine ⟨mV hm, ?_⟩
  refine ct_of (by decide) (fun _ _ => Nat.le_of_ble_eq_true rfl) ?_
  dsimp only [pad, ent]
  refine aw_P (P' := MP m h s A) (fun _ q => q) ?_
  have h8 := q.rr.2.1.1.1
  have h6 := q.rr.2.1.2
  have hT := nI_T (n := hs.length) (by omega)
  have hi1 : (13 : Int32) + 2 * nI hs.length = nI (13 + 2 * hs.length) := ix2 13 2 _
  refine r_iload_n (pc := 0) dX12_hand_0 rfl ?_
  refine r_iconst (pc := 1) (v := 0) dX12_hand_1 (by decide) ?_
  refine r_bipush (pc := 2) (v := 69) dX12_hand_2 (by decide) ?_
  refine r_Sp (pc := 4) (μ' := mX12_in) dX12_hand_4 nX12_57 sX12_in kX12_in rfl rfl (rr (by decide) rfl) rfl ⟨Nat.zero_le _, Nat.zero_le _⟩ (fun h => ct_M_in h) ?_
  rw [km_wi]
  refine r_if_ne (pc := 7) 17 dX12_hand_7 (by decide) (fun c7 => ?_) (fun c7 => ?_)
  · skip
    have k1 := b2i_n0.mp c7
    obtain ⟨n, hn, hn7⟩ := km_t k1
    obtain ⟨hk1, hk2⟩ := km_is n hn7
    refine r_aload_n (pc := 17) dX12_hand_17 rfl ?_
    refine r_getf (pc := 18) (k := 0) dX12_hand_18 hX12 eX12 (by decide) fX12_7 (fun _ q => mo hm q) rfl ?_
    refine r_bipush (pc := 21) (v := 8) dX12_hand_21 (by decide) ?_
    refine r_ml (pc := 23) (i := 0) (j := 8) hm dX12_hand_23 (by decide) rfl (by decide) ?_
    rw [h8]
    refine r_bipush (pc := 24) (v := 6) dX12_hand_24 (by decide) ?_
    refine r_icmp_ne (pc := 26) 36 dX12_hand_26 (by decide) (fun c26 => ?_) (fun c26 => ?_)
    · skip
      have k2 : hs.length < 6 := by
        have : ¬ hs.length = 6 := fun x => c26 (by rw [x]; rfl)
        omega
      refine aw_P (P' := MP m h s (upA A 0 (A 0))) (fun _ q => by rw [upA_id]; exact q) ?_
      refine r_aload_n (pc := 36) dX12_hand_36 rfl ?_
      refine r_getf (pc := 37) (k := 0) dX12_hand_37 hX12 eX12 (by decide) fX12_7 (fun _ q => mo hm q) rfl ?_
      refine r_bipush (pc := 40) (v := 8) dX12_hand_40 (by decide) ?_
      refine r_rl (pc := 42) (j := 8) hm dX12_hand_42 rfl (by decide) ?_
      rw [h8]
      refine r_istore_n (pc := 43) dX12_hand_43 rfl (Nat.le_of_ble_eq_true rfl) rfl ?_
      dsimp only [lset]
      refine r_aload_n (pc := 44) dX12_hand_44 rfl ?_
      refine r_getf (pc := 45) (k := 0) dX12_hand_45 hX12 eX12 (by decide) fX12_7 (fun _ q => mo hm q) rfl ?_
      refine r_bipush (pc := 48) (v := 13) dX12_hand_48 (by decide) ?_
      refine r_iconst (pc := 50) (v := 2) dX12_hand_50 (by decide) ?_
      refine r_iload_n (pc := 51) dX12_hand_51 rfl ?_
      refine r_imul (pc := 52) dX12_hand_52 ?_
      refine r_iadd (pc := 53) dX12_hand_53 ?_
      rw [hi1]
      refine r_iload_n (pc := 54) dX12_hand_54 rfl ?_
      refine r_bipush (pc := 55) (v := 10) dX12_hand_55 (by decide) ?_
      rw [hn]
      refine r_idiv (pc := 57) dX12_hand_57 (by decide) ?_
      rw [show (10 : Int32) = 10 from rfl, hk1]
      refine r_rs (pc := 58) (j := (13 + 2 * hs.length)) hm dX12_hand_58 (nI_T (by omega)) (show (13 + 2 * hs.length) < 267 by omega) ?_
      refine r_aload_n (pc := 59) dX12_hand_59 rfl ?_
      refine r_getf (pc := 60) (k := 0) dX12_hand_60 hX12 eX12 (by decide) fX12_7 (fun _ q => mo hm q) rfl ?_
      refine r_bipush (pc := 63) (v := 13) dX12_hand_63 (by decide) ?_
      refine r_iconst (pc := 65) (v := 2) dX12_hand_65 (by decide) ?_
      refine r_iload_n (pc := 66) dX12_hand_66 rfl ?_
      refine r_imul (pc := 67) dX12_hand_67 ?_
      refine r_iadd (pc := 68) dX12_hand_68 ?_
      rw [hi1]
      refine r_iconst (pc := 69) (v := 1) dX12_hand_69 (by decide) ?_
      refine r_iadd (pc := 70) dX12_hand_70 ?_
      rw [nI_1, show 13 + 2 * hs.length + 1 = 14 + 2 * hs.length by omega]
      refine r_iload_n (pc := 71) dX12_hand_71 rfl ?_
      refine r_bipush (pc := 72) (v := 10) dX12_hand_72 (by decide) ?_
      refine r_irem' (pc := 74) dX12_hand_74 (by decide) ?_
      rw [hk2]
      refine r_rs (pc := 75) (j := (14 + 2 * hs.length)) hm dX12_hand_75 (nI_T (by omega)) (show (14 + 2 * hs.length) < 267 by omega) ?_
      refine r_aload_n (pc := 76) dX12_hand_76 rfl ?_
      refine r_getf (pc := 77) (k := 0) dX12_hand_77 hX12 eX12 (by decide) fX12_7 (fun _ q => mo hm q) rfl ?_
      refine r_bipush (pc := 80) (v := 8) dX12_hand_80 (by decide) ?_
      refine r_dup2 (pc := 82) dX12_hand_82 rfl rfl ?_
      skip
      refine r_rl (pc := 83) (j := 8) hm dX12_hand_83 rfl (by decide) ?_
      rw [upd_n (by omega), upd_n (by omega), h8]
      refine r_iconst (pc := 84) (v := 1) dX12_hand_84 (by decide) ?_
      refine r_iadd (pc := 85) dX12_hand_85 ?_
      rw [nI_1]
      refine r_rs (pc := 86) (j := 8) hm dX12_hand_86 rfl (by decide) ?_
      refine r_iload_n (pc := 87) dX12_hand_87 rfl ?_
      refine r_ireturn (pc := 88) (ty := .int) dX12_hand_88 rfl rfl ⟨Nat.zero_le _, Nat.zero_le _⟩ (fun gE hg => ?_)
      refine mR hg (hP n hn hn7 k2 _ _ (q.row (q.rk.ext2 ok fun j hj => ?_) (RMr_hs (hs2 := hs ++ [(n / 10, n % 10)]) q.rr (by rw [List.length_append, List.length_singleton]; omega) (by rw [upd_s, List.length_append, List.length_singleton]) (fun i hi => ?_) (fun j hj => ?_))))
      · rw [upd_n (by omega), upd_n (by omega), upd_n (by omega)]
      · rw [List.length_append, List.length_singleton] at hi
        unfold hKd hMn
        rw [getD_appP hi]
        by_cases e : i = hs.length
        · rw [if_pos e, e, upd_n (by omega), upd_n (by omega), upd_s, upd_n (by omega), upd_s]
          exact ⟨rfl, rfl⟩
        · rw [if_neg e, upd_n (by omega), upd_n (by omega), upd_n (by omega), upd_n (by omega), upd_n (by omega), upd_n (by omega)]
          exact q.rr.2.1.1.2 i (by omega)
      · rw [upd_n (by omega), upd_n (by omega), upd_n (by omega)]
    · skip
      have k2 : hs.length = 6 := by have := fa_eq.mp c26; rw [hT, show (6 : Int32).toInt = 6 from rfl] at this; omega
      refine r_aload_n (pc := 29) dX12_hand_29 rfl ?_
      refine r_ldc (pc := 30) (v := (-1000000004)) dX12_hand_30 qX12_97 ?_
      refine r_Vi (pc := 32) (μ' := mX12_errs) dX12_hand_32 nX12_62 iX12_errs vX12_errs kX12_errs rfl rfl (rr (by decide) rfl) rfl ⟨Nat.zero_le _, Nat.zero_le _⟩ (fun _ q_ => cvq q_ (ct_M_errs hm 4 (by decide) (by decide))) ?_
      rw [show (-1000000004 : Int32) = -1000000000 - 4 from rfl]
      refine r_ireturn (pc := 35) (ty := .int) dX12_hand_35 rfl rfl ⟨Nat.zero_le _, Nat.zero_le _⟩ (fun gE hg => ?_)
      exact mR hg (e4 k1 k2 _ _ (q.err (by decide) rfl))
  · skip
    have k1 := b2i_0.mp c7
    refine r_aload_n (pc := 10) dX12_hand_10 rfl ?_
    refine r_ldc (pc := 11) (v := (-1000000001)) dX12_hand_11 qX12_61 ?_
    refine r_Vi (pc := 13) (μ' := mX12_errs) dX12_hand_13 nX12_62 iX12_errs vX12_errs kX12_errs rfl rfl (rr (by decide) rfl) rfl ⟨Nat.zero_le _, Nat.zero_le _⟩ (fun _ q_ => cvq q_ (ct_M_errs hm 1 (by decide) (by decide))) ?_
    rw [show (-1000000001 : Int32) = -1000000000 - 1 from rfl]
    refine r_ireturn (pc := 16) (ty := .int) dX12_hand_16 rfl rfl ⟨Nat.zero_le _, Nat.zero_le _⟩ (fun gE hg => ?_)
    exact mR hg (e1 k1 _ _ (q.err (by decide) rfl))
set_option maxHeartbeats 4000000 in
theorem cm_ofHand (hm : m + 14 < h.1) {a b : Int32} (q : MG K hs tD tL tp wa z k bt sh hd er im s A) (hok : HOk hs) (e1 : (hdB hs a && wiB b 0 5) = false → ∀ s2 A2, MG K hs tD tL tp wa z k bt sh hd (errL er 1) im s2 A2 → Q (some (.int (-1000000000 - 1))) (mh m h s2 A2)) (hP : ∀ i, a = nI i → i < hs.length → wiB b 0 5 = true → ∀ s2 A2, MG K hs tD tL tp wa z k bt sh hd er im s2 A2 → Q (some (.int (ofHI (nI (hKd hs i)) (nI (hMn hs i)) b))) (mh m h s2 A2)) : CV 4 0 0 mX12_ofHand m [.int a, .int b] (mh m h s A) Q := by
  refine ⟨mV hm, ?_⟩
  refine ct_of (by decide) (fun _ _ => Nat.le_of_ble_eq_true rfl) ?_
  dsimp only [pad, ent]
  refine aw_P (P' := MP m h s A) (fun _ q => q) ?_
  have h6 := hok.1
  refine r_aload_n (pc := 0) dX12_ofHand_0 rfl ?_
  refine r_iload_n (pc := 1) dX12_ofHand_1 rfl ?_
  refine r_Vi (pc := 2) (μ' := mX12_isHand) dX12_ofHand_2 nX12_98 iX12_isHand vX12_isHand kX12_isHand rfl rfl (rr (by decide) rfl) rfl ⟨Nat.zero_le _, Nat.zero_le _⟩ (fun _ q_ => cvq q_ (ct_M_isHand hm)) ?_
  rw [q.hb]
  refine r_if_eq (pc := 5) 17 dX12_ofHand_5 (by decide) (fun c5 => ?_) (fun c5 => ?_)
  · skip
    have k1 := b2i_0.mp c5
    refine r_aload_n (pc := 17) dX12_ofHand_17 rfl ?_
    refine r_ldc (pc := 18) (v := (-1000000001)) dX12_ofHand_18 qX12_61 ?_
    refine r_Vi (pc := 20) (μ' := mX12_errs) dX12_ofHand_20 nX12_62 iX12_errs vX12_errs kX12_errs rfl rfl (rr (by decide) rfl) rfl ⟨Nat.zero_le _, Nat.zero_le _⟩ (fun _ q_ => cvq q_ (ct_M_errs hm 1 (by decide) (by decide))) ?_
    rw [show (-1000000001 : Int32) = -1000000000 - 1 from rfl]
    refine r_ireturn (pc := 23) (ty := .int) dX12_ofHand_23 rfl rfl ⟨Nat.zero_le _, Nat.zero_le _⟩ (fun gE hg => ?_)
    exact mR hg (e1 (by first | (rw [k1]; rfl) | (rw [k1, k2]; rfl)) _ _ (q.err (by decide) rfl))
  · skip
    have k1 := b2i_n0.mp c5
    obtain ⟨i, hi, hi2⟩ := hd_t k1 hok
    obtain ⟨r1, r2⟩ := hs_rm q.rr hi2
    have hh := hok.at hi2
    refine r_iload_n (pc := 8) dX12_ofHand_8 rfl ?_
    refine r_iconst (pc := 9) (v := 0) dX12_ofHand_9 (by decide) ?_
    refine r_iconst (pc := 10) (v := 5) dX12_ofHand_10 (by decide) ?_
    refine r_Sp (pc := 11) (μ' := mX12_in) dX12_ofHand_11 nX12_57 sX12_in kX12_in rfl rfl (rr (by decide) rfl) rfl ⟨Nat.zero_le _, Nat.zero_le _⟩ (fun h => ct_M_in h) ?_
    refine r_if_ne (pc := 14) 24 dX12_ofHand_14 (by decide) (fun c14 => ?_) (fun c14 => ?_)
    · skip
      have k2 := b2i_n0.mp c14
      have h7 := hP i hi hi2 k2
      refine r_aload_n (pc := 24) dX12_ofHand_24 rfl ?_
      refine r_iload_n (pc := 25) dX12_ofHand_25 rfl ?_
      rw [hi]
      refine r_Vi (pc := 26) (μ' := mX12_kindOf) dX12_ofHand_26 nX12_101 iX12_kindOf vX12_kindOf kX12_kindOf rfl rfl (rr (by decide) rfl) rfl ⟨Nat.zero_le _, Nat.zero_le _⟩ (fun _ q_ => cvq q_ (ct_M_kindOf hm (show i < 6 by omega))) ?_
      rw [r1]
      refine r_istore_n (pc := 29) dX12_ofHand_29 rfl (Nat.le_of_ble_eq_true rfl) rfl ?_
      dsimp only [lset]
      refine r_aload_n (pc := 30) dX12_ofHand_30 rfl ?_
      refine r_iload_n (pc := 31) dX12_ofHand_31 rfl ?_
      refine r_Vi (pc := 32) (μ' := mX12_mOf) dX12_ofHand_32 nX12_104 iX12_mOf vX12_mOf kX12_mOf rfl rfl (rr (by decide) rfl) rfl ⟨Nat.zero_le _, Nat.zero_le _⟩ (fun _ q_ => cvq q_ (ct_M_mOf hm (show i < 6 by omega))) ?_
      rw [r2]
      refine r_istore (pc := 35) dX12_ofHand_35 (Nat.le_of_ble_eq_true rfl) rfl ?_
      dsimp only [lset]
      refine r_iload_n (pc := 37) dX12_ofHand_37 rfl ?_
      by_cases s38_0 : b = 0
      · skip
        refine r_tableAt (pc := 38) 72 0 dX12_ofHand_38 (by rw [s38_0]; decide) (by decide) rfl (by decide) ?_
        rw [show ofHI (nI (hKd hs i)) (nI (hMn hs i)) b = nI (hKd hs i) by rw [s38_0]; rfl] at h7
        refine r_iload_n (pc := 72) dX12_ofHand_72 rfl ?_
        refine r_ireturn (pc := 73) (ty := .int) dX12_ofHand_73 rfl rfl ⟨Nat.zero_le _, Nat.zero_le _⟩ (fun gE hg => ?_)
        exact mR hg (h7 _ _ q)
      by_cases s38_1 : b = 1
      · skip
        refine r_tableAt (pc := 38) 74 1 dX12_ofHand_38 (by rw [s38_1]; decide) (by decide) rfl (by decide) ?_
        rw [show ofHI (nI (hKd hs i)) (nI (hMn hs i)) b = nI (hMn hs i) by rw [s38_1]; rfl] at h7
        refine r_iload (pc := 74) dX12_ofHand_74 rfl ?_
        refine r_ireturn (pc := 76) (ty := .int) dX12_ofHand_76 rfl rfl ⟨Nat.zero_le _, Nat.zero_le _⟩ (fun gE hg => ?_)
        exact mR hg (h7 _ _ q)
      by_cases s38_2 : b = 2
      · skip
        refine r_tableAt (pc := 38) 77 2 dX12_ofHand_38 (by rw [s38_2]; decide) (by decide) rfl (by decide) ?_
        rw [show ofHI (nI (hKd hs i)) (nI (hMn hs i)) b = paceI (nI (hKd hs i)) (nI (hMn hs i)) (nI 0) by rw [s38_2]; rfl] at h7
        refine r_iload_n (pc := 77) dX12_ofHand_77 rfl ?_
        refine r_iload (pc := 78) dX12_ofHand_78 rfl ?_
        refine r_iconst (pc := 80) (v := 0) dX12_ofHand_80 (by decide) ?_
        rw [show (0 : Int32) = nI 0 from rfl]
        refine r_Sp (pc := 81) (μ' := mX12_paceOf) dX12_ofHand_81 nX12_107 sX12_paceOf kX12_paceOf rfl rfl (rr (by decide) rfl) rfl ⟨Nat.zero_le _, Nat.zero_le _⟩ (fun h => ct_M_paceOf (by omega) h) ?_
        refine r_ireturn (pc := 84) (ty := .int) dX12_ofHand_84 rfl rfl ⟨Nat.zero_le _, Nat.zero_le _⟩ (fun gE hg => ?_)
        exact mR hg (h7 _ _ q)
      by_cases s38_3 : b = 3
      · skip
        refine r_tableAt (pc := 38) 85 3 dX12_ofHand_38 (by rw [s38_3]; decide) (by decide) rfl (by decide) ?_
        rw [show ofHI (nI (hKd hs i)) (nI (hMn hs i)) b = paceI (nI (hKd hs i)) (nI (hMn hs i)) (nI 3) by rw [s38_3]; rfl] at h7
        refine r_iload_n (pc := 85) dX12_ofHand_85 rfl ?_
        refine r_iload (pc := 86) dX12_ofHand_86 rfl ?_
        refine r_iconst (pc := 88) (v := 3) dX12_ofHand_88 (by decide) ?_
        rw [show (3 : Int32) = nI 3 from rfl]
        refine r_Sp (pc := 89) (μ' := mX12_paceOf) dX12_ofHand_89 nX12_107 sX12_paceOf kX12_paceOf rfl rfl (rr (by decide) rfl) rfl ⟨Nat.zero_le _, Nat.zero_le _⟩ (fun h => ct_M_paceOf (by omega) h) ?_
        refine r_ireturn (pc := 92) (ty := .int) dX12_ofHand_92 rfl rfl ⟨Nat.zero_le _, Nat.zero_le _⟩ (fun gE hg => ?_)
        exact mR hg (h7 _ _ q)
      by_cases s38_4 : b = 4
      · skip
        refine r_tableAt (pc := 38) 93 4 dX12_ofHand_38 (by rw [s38_4]; decide) (by decide) rfl (by decide) ?_
        rw [show ofHI (nI (hKd hs i)) (nI (hMn hs i)) b = loadI (nI (hKd hs i)) (nI (hMn hs i)) by rw [s38_4]; rfl] at h7
        refine r_iload_n (pc := 93) dX12_ofHand_93 rfl ?_
        refine r_iload (pc := 94) dX12_ofHand_94 rfl ?_
        refine r_Sp (pc := 96) (μ' := mX12_loadOf) dX12_ofHand_96 nX12_111 sX12_loadOf kX12_loadOf rfl rfl (rr (by decide) rfl) rfl ⟨Nat.zero_le _, Nat.zero_le _⟩ (fun h => ct_M_loadOf hh.2 h) ?_
        refine r_ireturn (pc := 99) (ty := .int) dX12_ofHand_99 rfl rfl ⟨Nat.zero_le _, Nat.zero_le _⟩ (fun gE hg => ?_)
        exact mR hg (h7 _ _ q)
      have t38_0 : ¬ (b).toInt = 0 := fun q => s38_0 (Int32.toInt_inj.mp q)
      have t38_1 : ¬ (b).toInt = 1 := fun q => s38_1 (Int32.toInt_inj.mp q)
      have t38_2 : ¬ (b).toInt = 2 := fun q => s38_2 (Int32.toInt_inj.mp q)
      have t38_3 : ¬ (b).toInt = 3 := fun q => s38_3 (Int32.toInt_inj.mp q)
      have t38_4 : ¬ (b).toInt = 4 := fun q => s38_4 (Int32.toInt_inj.mp q)
      refine r_tableOut (pc := 38) 100 dX12_ofHand_38 (by omega) (by decide) ?_
      rw [show ofHI (nI (hKd hs i)) (nI (hMn hs i)) b = usesI (nI (hKd hs i)) (nI (hMn hs i)) by unfold ofHI; rw [if_neg s38_0, if_neg s38_1, if_neg s38_2, if_neg s38_3, if_neg s38_4]] at h7
      refine r_iload_n (pc := 100) dX12_ofHand_100 rfl ?_
      refine r_iload (pc := 101) dX12_ofHand_101 rfl ?_
      refine r_Sp (pc := 103) (μ' := mX12_usesOf) dX12_ofHand_103 nX12_115 sX12_usesOf kX12_usesOf rfl rfl (rr (by decide) rfl) rfl ⟨Nat.zero_le _, Nat.zero_le _⟩ (fun h => ct_M_usesOf h) ?_
      refine r_ireturn (pc := 106) (ty := .int) dX12_ofHand_106 rfl rfl ⟨Nat.zero_le _, Nat.zero_le _⟩ (fun gE hg => ?_)
      exact mR hg (h7 _ _ q)
    · skip
      have k2 := b2i_0.mp c14
      refine r_aload_n (pc := 17) dX12_ofHand_17 rfl ?_
      refine r_ldc (pc := 18) (v := (-1000000001)) dX12_ofHand_18 qX12_61 ?_
      refine r_Vi (pc := 20) (μ' := mX12_errs) dX12_ofHand_20 nX12_62 iX12_errs vX12_errs kX12_errs rfl rfl (rr (by decide) rfl) rfl ⟨Nat.zero_le _, Nat.zero_le _⟩ (fun _ q_ => cvq q_ (ct_M_errs hm 1 (by decide) (by decide))) ?_
      rw [show (-1000000001 : Int32) = -1000000000 - 1 from rfl]
      refine r_ireturn (pc := 23) (ty := .int) dX12_ofHand_23 rfl rfl ⟨Nat.zero_le _, Nat.zero_le _⟩ (fun gE hg => ?_)
      exact mR hg (e1 (by first | (rw [k1]; rfl) | (rw [k1, k2]; rfl)) _ _ (q.err (by decide) rfl))
set_option maxHeartbeats 4000000 in
theorem cm_become (hm : m + 14 < h.1) {a b : Int32} (q : MG K hs tD tL tp wa z k bt sh hd er im s A) (ok : KOk K) (hok : HOk hs) (e1 : (hdB hs a && kmB b) = false → ∀ s2 A2, MG K hs tD tL tp wa z k bt sh hd (errL er 1) im s2 A2 → Q (some (.int (-1000000000 - 1))) (mh m h s2 A2)) (hP : ∀ i n, a = nI i → i < hs.length → b = nI n → n < 70 → ∀ s2 A2, MG K (hs.set i (n / 10, n % 10)) tD tL tp wa z k bt sh hd er im s2 A2 → Q (some (.int (nI (hKd hs i)))) (mh m h s2 A2)) : CV 4 0 0 mX12_become m [.int a, .int b] (mh m h s A) Q := by
  refine ⟨mV hm, ?_⟩
  refine ct_of (by decide) (fun _ _ => Nat.le_of_ble_eq_true rfl) ?_
  dsimp only [pad, ent]
  refine aw_P (P' := MP m h s A) (fun _ q => q) ?_
  have h6 := hok.1
  refine r_aload_n (pc := 0) dX12_become_0 rfl ?_
  refine r_iload_n (pc := 1) dX12_become_1 rfl ?_
  refine r_Vi (pc := 2) (μ' := mX12_isHand) dX12_become_2 nX12_98 iX12_isHand vX12_isHand kX12_isHand rfl rfl (rr (by decide) rfl) rfl ⟨Nat.zero_le _, Nat.zero_le _⟩ (fun _ q_ => cvq q_ (ct_M_isHand hm)) ?_
  rw [q.hb]
  refine r_if_eq (pc := 5) 18 dX12_become_5 (by decide) (fun c5 => ?_) (fun c5 => ?_)
  · skip
    have k1 := b2i_0.mp c5
    refine r_aload_n (pc := 18) dX12_become_18 rfl ?_
    refine r_ldc (pc := 19) (v := (-1000000001)) dX12_become_19 qX12_61 ?_
    refine r_Vi (pc := 21) (μ' := mX12_errs) dX12_become_21 nX12_62 iX12_errs vX12_errs kX12_errs rfl rfl (rr (by decide) rfl) rfl ⟨Nat.zero_le _, Nat.zero_le _⟩ (fun _ q_ => cvq q_ (ct_M_errs hm 1 (by decide) (by decide))) ?_
    rw [show (-1000000001 : Int32) = -1000000000 - 1 from rfl]
    refine r_ireturn (pc := 24) (ty := .int) dX12_become_24 rfl rfl ⟨Nat.zero_le _, Nat.zero_le _⟩ (fun gE hg => ?_)
    exact mR hg (e1 (by first | (rw [k1]; rfl) | (rw [k1, k2]; rfl)) _ _ (q.err (by decide) rfl))
  · skip
    have k1 := b2i_n0.mp c5
    obtain ⟨i, hi, hi2⟩ := hd_t k1 hok
    obtain ⟨r1, r2⟩ := hs_rm q.rr hi2
    have hi1 : (13 : Int32) + 2 * nI i = nI (13 + 2 * i) := ix2 13 2 _
    refine r_iload_n (pc := 8) dX12_become_8 rfl ?_
    refine r_iconst (pc := 9) (v := 0) dX12_become_9 (by decide) ?_
    refine r_bipush (pc := 10) (v := 69) dX12_become_10 (by decide) ?_
    refine r_Sp (pc := 12) (μ' := mX12_in) dX12_become_12 nX12_57 sX12_in kX12_in rfl rfl (rr (by decide) rfl) rfl ⟨Nat.zero_le _, Nat.zero_le _⟩ (fun h => ct_M_in h) ?_
    rw [km_wi]
    refine r_if_ne (pc := 15) 25 dX12_become_15 (by decide) (fun c15 => ?_) (fun c15 => ?_)
    · skip
      have k2 := b2i_n0.mp c15
      obtain ⟨n, hn, hn7⟩ := km_t k2
      obtain ⟨hk1, hk2⟩ := km_is n hn7
      refine r_aload_n (pc := 25) dX12_become_25 rfl ?_
      refine r_iload_n (pc := 26) dX12_become_26 rfl ?_
      rw [hi]
      refine r_Vi (pc := 27) (μ' := mX12_kindOf) dX12_become_27 nX12_101 iX12_kindOf vX12_kindOf kX12_kindOf rfl rfl (rr (by decide) rfl) rfl ⟨Nat.zero_le _, Nat.zero_le _⟩ (fun _ q_ => cvq q_ (ct_M_kindOf hm (show i < 6 by omega))) ?_
      rw [r1]
      refine r_istore_n (pc := 30) dX12_become_30 rfl (Nat.le_of_ble_eq_true rfl) rfl ?_
      dsimp only [lset]
      refine aw_P (P' := MP m h s (upA A 0 (A 0))) (fun _ q => by rw [upA_id]; exact q) ?_
      refine r_aload_n (pc := 31) dX12_become_31 rfl ?_
      refine r_getf (pc := 32) (k := 0) dX12_become_32 hX12 eX12 (by decide) fX12_7 (fun _ q => mo hm q) rfl ?_
      refine r_bipush (pc := 35) (v := 13) dX12_become_35 (by decide) ?_
      refine r_iconst (pc := 37) (v := 2) dX12_become_37 (by decide) ?_
      refine r_iload_n (pc := 38) dX12_become_38 rfl ?_
      refine r_imul (pc := 39) dX12_become_39 ?_
      refine r_iadd (pc := 40) dX12_become_40 ?_
      rw [hi1]
      refine r_iload_n (pc := 41) dX12_become_41 rfl ?_
      refine r_bipush (pc := 42) (v := 10) dX12_become_42 (by decide) ?_
      rw [hn]
      refine r_idiv (pc := 44) dX12_become_44 (by decide) ?_
      rw [hk1]
      refine r_rs (pc := 45) (j := (13 + 2 * i)) hm dX12_become_45 (nI_T (by omega)) (show (13 + 2 * i) < 267 by omega) ?_
      refine r_aload_n (pc := 46) dX12_become_46 rfl ?_
      refine r_getf (pc := 47) (k := 0) dX12_become_47 hX12 eX12 (by decide) fX12_7 (fun _ q => mo hm q) rfl ?_
      refine r_bipush (pc := 50) (v := 13) dX12_become_50 (by decide) ?_
      refine r_iconst (pc := 52) (v := 2) dX12_become_52 (by decide) ?_
      refine r_iload_n (pc := 53) dX12_become_53 rfl ?_
      refine r_imul (pc := 54) dX12_become_54 ?_
      refine r_iadd (pc := 55) dX12_become_55 ?_
      rw [hi1]
      refine r_iconst (pc := 56) (v := 1) dX12_become_56 (by decide) ?_
      refine r_iadd (pc := 57) dX12_become_57 ?_
      rw [nI_1, show 13 + 2 * i + 1 = 14 + 2 * i by omega]
      refine r_iload_n (pc := 58) dX12_become_58 rfl ?_
      refine r_bipush (pc := 59) (v := 10) dX12_become_59 (by decide) ?_
      refine r_irem' (pc := 61) dX12_become_61 (by decide) ?_
      rw [hk2]
      refine r_rs (pc := 62) (j := (14 + 2 * i)) hm dX12_become_62 (nI_T (by omega)) (show (14 + 2 * i) < 267 by omega) ?_
      refine r_iload_n (pc := 63) dX12_become_63 rfl ?_
      refine r_ireturn (pc := 64) (ty := .int) dX12_become_64 rfl rfl ⟨Nat.zero_le _, Nat.zero_le _⟩ (fun gE hg => ?_)
      refine mR hg (hP i n hi hi2 hn hn7 _ _ (q.row (q.rk.ext2 ok fun j hj => ?_) (RMr_hs (hs2 := hs.set i (n / 10, n % 10)) q.rr (by rw [List.length_set]; omega) (by rw [upd_n (by omega), upd_n (by omega), List.length_set]; exact q.rr.2.1.1.1) (fun j hj => ?_) (fun j hj => ?_))))
      · rw [upd_n (by omega), upd_n (by omega)]
      · rw [List.length_set] at hj
        unfold hKd hMn
        rw [getD_setP hi2]
        by_cases e : j = i
        · rw [if_pos e, e, upd_n (by omega), upd_s, upd_s]
          exact ⟨rfl, rfl⟩
        · rw [if_neg e, upd_n (by omega), upd_n (by omega), upd_n (by omega), upd_n (by omega)]
          exact q.rr.2.1.1.2 j hj
      · rw [upd_n (by omega), upd_n (by omega)]
    · skip
      have k2 := b2i_0.mp c15
      refine r_aload_n (pc := 18) dX12_become_18 rfl ?_
      refine r_ldc (pc := 19) (v := (-1000000001)) dX12_become_19 qX12_61 ?_
      refine r_Vi (pc := 21) (μ' := mX12_errs) dX12_become_21 nX12_62 iX12_errs vX12_errs kX12_errs rfl rfl (rr (by decide) rfl) rfl ⟨Nat.zero_le _, Nat.zero_le _⟩ (fun _ q_ => cvq q_ (ct_M_errs hm 1 (by decide) (by decide))) ?_
      rw [show (-1000000001 : Int32) = -1000000000 - 1 from rfl]
      refine r_ireturn (pc := 24) (ty := .int) dX12_become_24 rfl rfl ⟨Nat.zero_le _, Nat.zero_le _⟩ (fun gE hg => ?_)
      exact mR hg (e1 (by first | (rw [k1]; rfl) | (rw [k1, k2]; rfl)) _ _ (q.err (by decide) rfl))
def rkN : Nat → Nat
  | 0 => 1
  | 1 => 2
  | 2 => 2
  | 3 => 2
  | _ => 3
theorem rk_above : ∀ k, k < 7 → ∀ n, n < 4 → rkN k ≤ n + 1 → (aboveI (nI k) = -1 ∧ k = 0) ∨ ∃ j, j < 7 ∧ aboveI (nI k) = nI j ∧ rkN j ≤ n := by decide +kernel
theorem rk_0 : ∀ k, 1 ≤ rkN k := by
  intro k
  unfold rkN
  split <;> decide
theorem m1_lt0 : (-1 : Int32) < 0 := by decide
set_option maxHeartbeats 4000000 in
theorem cm_as (hm : m + 14 < h.1) {a b : Int32} (q : MG K hs tD tL tp wa z k bt sh hd er im s A) (hok : HOk hs) (e1 : (hdB hs a && decide (0 ≤ b.toInt ∧ b.toInt < 7)) = false → ∀ s2 A2, MG K hs tD tL tp wa z k bt sh hd (errL er 1) im s2 A2 → Q (some (.int (-1000000000 - 1))) (mh m h s2 A2)) (e5 : ∀ i, a = nI i → i < hs.length → 0 ≤ b.toInt ∧ b.toInt < 7 → undI 7 (nI (hKd hs i)) b = false → ∀ s2 A2, MG K hs tD tL tp wa z k bt sh hd (errL er 5) im s2 A2 → Q (some (.int (-1000000000 - 5))) (mh m h s2 A2)) (hP : ∀ i, a = nI i → i < hs.length → 0 ≤ b.toInt ∧ b.toInt < 7 → undI 7 (nI (hKd hs i)) b = true → ∀ s2 A2, MG K hs tD tL tp wa z k bt sh hd er im s2 A2 → Q (some (.int (nI (hMn hs i)))) (mh m h s2 A2)) : CV 4 0 0 mX12_as m [.int a, .int b] (mh m h s A) Q := by
  refine ⟨mV hm, ?_⟩
  refine ct_of (by decide) (fun _ _ => Nat.le_of_ble_eq_true rfl) ?_
  dsimp only [pad, ent]
  have h6 := hok.1
  have b7 : wiB b 0 6 = decide (0 ≤ b.toInt ∧ b.toInt < 7) := by
    unfold wiB
    rw [t0, show (6 : Int32).toInt = 6 from rfl]
    by_cases e : 0 ≤ b.toInt ∧ b.toInt < 7
    · rw [decide_eq_true e, decide_eq_true (by omega)]
    · rw [decide_eq_false e, decide_eq_false (by omega)]
  have Z : ∀ i, a = nI i → i < hs.length → 0 ≤ b.toInt ∧ b.toInt < 7 → undI 7 (nI (hKd hs i)) b = false → AW (fun _ => True) (rmd 4 0 0) mX12_as 0 0 31 [some (.ref m), some (.int (nI i)), some (.int b), some (.int (-1))] [] (MP m h s A) Q := by
    intro i hi hi2 hb hu
    refine r_iload_n (pc := 31) dX12_as_31 rfl ?_
    refine r_if_lt (pc := 32) 48 dX12_as_32 (by decide) (fun c32 => ?_) (fun c32 => ?_)
    · skip
      refine r_iload_n (pc := 48) dX12_as_48 rfl ?_
      refine r_if_ge (pc := 49) 61 dX12_as_49 (by decide) (fun c49 => ?_) (fun c49 => ?_)
      · skip
        exact absurd c49 (by decide)
      · skip
        refine r_aload_n (pc := 52) dX12_as_52 rfl ?_
        refine r_ldc (pc := 53) (v := (-1000000005)) dX12_as_53 qX12_121 ?_
        refine r_Vi (pc := 55) (μ' := mX12_errs) dX12_as_55 nX12_62 iX12_errs vX12_errs kX12_errs rfl rfl (rr (by decide) rfl) rfl ⟨Nat.zero_le _, Nat.zero_le _⟩ (fun _ q_ => cvq q_ (ct_M_errs hm 5 (by decide) (by decide))) ?_
        refine r_goto (pc := 58) 66 dX12_as_58 (by decide) ?_
        rw [show (-1000000005 : Int32) = -1000000000 - 5 from rfl]
        refine r_ireturn (pc := 66) (ty := .int) dX12_as_66 rfl rfl ⟨Nat.zero_le _, Nat.zero_le _⟩ (fun gE hg => ?_)
        exact mR hg (e5 i hi hi2 hb hu _ _ (q.err (by decide) rfl))
    · skip
      exact absurd m1_lt0 c32
  have L : ∀ i, a = nI i → i < hs.length → 0 ≤ b.toInt ∧ b.toInt < 7 → ∀ n, n ≤ 4 → ∀ j, j < 7 → rkN j ≤ n → undI (n + 3) (nI j) b = undI 7 (nI (hKd hs i)) b → AW (fun _ => True) (rmd 4 0 0) mX12_as 0 0 31 [some (.ref m), some (.int (nI i)), some (.int b), some (.int (nI j))] [] (MP m h s A) Q := by
    intro i hi hi2 hb n
    obtain ⟨r1, r2⟩ := hs_rm q.rr hi2
    induction n with
    | zero => intro _ j hj hr; exact absurd (rk_0 j) (by omega)
    | succ n ih =>
      intro hn j hj hr hu
      rw [show n + 1 + 3 = (n + 3) + 1 by omega] at hu
      change (if nI j < 0 then false else if nI j = b then true else undI (n + 3) (aboveI (nI j)) b) = _ at hu
      rw [if_neg (nI_pos (by omega))] at hu
      refine r_iload_n (pc := 31) dX12_as_31 rfl ?_
      refine r_if_lt (pc := 32) 48 dX12_as_32 (by decide) (fun c32 => ?_) (fun c32 => ?_)
      · skip
        exact absurd c32 (nI_pos (by omega))
      · skip
        refine r_iload_n (pc := 35) dX12_as_35 rfl ?_
        refine r_iload_n (pc := 36) dX12_as_36 rfl ?_
        refine r_icmp_eq (pc := 37) 48 dX12_as_37 (by decide) (fun c37 => ?_) (fun c37 => ?_)
        · skip
          rw [if_pos c37] at hu
          refine r_iload_n (pc := 48) dX12_as_48 rfl ?_
          refine r_if_ge (pc := 49) 61 dX12_as_49 (by decide) (fun c49 => ?_) (fun c49 => ?_)
          · skip
            have h7 := hP i hi hi2 hb hu.symm
            refine r_aload_n (pc := 61) dX12_as_61 rfl ?_
            refine r_iload_n (pc := 62) dX12_as_62 rfl ?_
            refine r_Vi (pc := 63) (μ' := mX12_mOf) dX12_as_63 nX12_104 iX12_mOf vX12_mOf kX12_mOf rfl rfl (rr (by decide) rfl) rfl ⟨Nat.zero_le _, Nat.zero_le _⟩ (fun _ q_ => cvq q_ (ct_M_mOf hm (show i < 6 by omega))) ?_
            rw [r2]
            refine r_ireturn (pc := 66) (ty := .int) dX12_as_66 rfl rfl ⟨Nat.zero_le _, Nat.zero_le _⟩ (fun gE hg => ?_)
            exact mR hg (h7 _ _ q)
          · skip
            exact absurd (nI_pos' (by omega)) c49
        · skip
          rw [if_neg c37] at hu
          refine r_iload_n (pc := 40) dX12_as_40 rfl ?_
          refine r_Sp (pc := 41) (μ' := mX12_above) dX12_as_41 nX12_118 sX12_above kX12_above rfl rfl (rr (by decide) rfl) rfl ⟨Nat.zero_le _, Nat.zero_le _⟩ (fun h => ct_M_above hj h) ?_
          refine r_istore_n (pc := 44) dX12_as_44 rfl (Nat.le_of_ble_eq_true rfl) rfl ?_
          dsimp only [lset]
          refine r_goto (pc := 45) 31 dX12_as_45 (by decide) ?_
          rcases rk_above j hj n (by omega) hr with ⟨e, e2⟩ | ⟨j2, hj2, e, e3⟩
          · rw [e]
            rw [e] at hu
            refine Z i hi hi2 hb ?_
            rw [← hu]
            show (if (-1 : Int32) < 0 then false else if (-1 : Int32) = b then true else undI (n + 2) (aboveI (-1)) b) = false
            rw [if_pos m1_lt0]
          · rw [e]
            rw [e] at hu
            exact ih (by omega) j2 hj2 e3 hu
  refine aw_P (P' := MP m h s A) (fun _ q => q) ?_
  refine r_aload_n (pc := 0) dX12_as_0 rfl ?_
  refine r_iload_n (pc := 1) dX12_as_1 rfl ?_
  refine r_Vi (pc := 2) (μ' := mX12_isHand) dX12_as_2 nX12_98 iX12_isHand vX12_isHand kX12_isHand rfl rfl (rr (by decide) rfl) rfl ⟨Nat.zero_le _, Nat.zero_le _⟩ (fun _ q_ => cvq q_ (ct_M_isHand hm)) ?_
  rw [q.hb]
  refine r_if_eq (pc := 5) 18 dX12_as_5 (by decide) (fun c5 => ?_) (fun c5 => ?_)
  · skip
    have k1 := b2i_0.mp c5
    refine r_aload_n (pc := 18) dX12_as_18 rfl ?_
    refine r_ldc (pc := 19) (v := (-1000000001)) dX12_as_19 qX12_61 ?_
    refine r_Vi (pc := 21) (μ' := mX12_errs) dX12_as_21 nX12_62 iX12_errs vX12_errs kX12_errs rfl rfl (rr (by decide) rfl) rfl ⟨Nat.zero_le _, Nat.zero_le _⟩ (fun _ q_ => cvq q_ (ct_M_errs hm 1 (by decide) (by decide))) ?_
    rw [show (-1000000001 : Int32) = -1000000000 - 1 from rfl]
    refine r_ireturn (pc := 24) (ty := .int) dX12_as_24 rfl rfl ⟨Nat.zero_le _, Nat.zero_le _⟩ (fun gE hg => ?_)
    exact mR hg (e1 (by first | (rw [k1]; rfl) | (rw [k1, k2]; rfl)) _ _ (q.err (by decide) rfl))
  · skip
    have k1 := b2i_n0.mp c5
    obtain ⟨i, hi, hi2⟩ := hd_t k1 hok
    obtain ⟨r1, r2⟩ := hs_rm q.rr hi2
    have hh := hok.at hi2
    refine r_iload_n (pc := 8) dX12_as_8 rfl ?_
    refine r_iconst (pc := 9) (v := 0) dX12_as_9 (by decide) ?_
    refine r_bipush (pc := 10) (v := 6) dX12_as_10 (by decide) ?_
    refine r_Sp (pc := 12) (μ' := mX12_in) dX12_as_12 nX12_57 sX12_in kX12_in rfl rfl (rr (by decide) rfl) rfl ⟨Nat.zero_le _, Nat.zero_le _⟩ (fun h => ct_M_in h) ?_
    rw [b7]
    refine r_if_ne (pc := 15) 25 dX12_as_15 (by decide) (fun c15 => ?_) (fun c15 => ?_)
    · skip
      have k2 := b2i_n0.mp c15
      refine r_aload_n (pc := 25) dX12_as_25 rfl ?_
      refine r_iload_n (pc := 26) dX12_as_26 rfl ?_
      rw [hi]
      refine r_Vi (pc := 27) (μ' := mX12_kindOf) dX12_as_27 nX12_101 iX12_kindOf vX12_kindOf kX12_kindOf rfl rfl (rr (by decide) rfl) rfl ⟨Nat.zero_le _, Nat.zero_le _⟩ (fun _ q_ => cvq q_ (ct_M_kindOf hm (show i < 6 by omega))) ?_
      rw [r1]
      refine r_istore_n (pc := 30) dX12_as_30 rfl (Nat.le_of_ble_eq_true rfl) rfl ?_
      dsimp only [lset]
      exact L i hi hi2 (of_decide_eq_true k2) 4 (by omega) _ hh.1 (by unfold rkN; split <;> omega) rfl
    · skip
      have k2 := b2i_0.mp c15
      refine r_aload_n (pc := 18) dX12_as_18 rfl ?_
      refine r_ldc (pc := 19) (v := (-1000000001)) dX12_as_19 qX12_61 ?_
      refine r_Vi (pc := 21) (μ' := mX12_errs) dX12_as_21 nX12_62 iX12_errs vX12_errs kX12_errs rfl rfl (rr (by decide) rfl) rfl ⟨Nat.zero_le _, Nat.zero_le _⟩ (fun _ q_ => cvq q_ (ct_M_errs hm 1 (by decide) (by decide))) ?_
      rw [show (-1000000001 : Int32) = -1000000000 - 1 from rfl]
      refine r_ireturn (pc := 24) (ty := .int) dX12_as_24 rfl rfl ⟨Nat.zero_le _, Nat.zero_le _⟩ (fun gE hg => ?_)
      exact mR hg (e1 (by first | (rw [k1]; rfl) | (rw [k1, k2]; rfl)) _ _ (q.err (by decide) rfl))
end Mhands
