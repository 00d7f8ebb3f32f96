/-! THE REFERENCE, whole: what its object tells; a new ceiling, settings, hands -/
abbrev MK : Type := CK × List (Nat × Nat) × Option (List Int32) × Option (List Int32) × List Int32 × List Int32 × Int32
def MG (K : CK) (hs : List (Nat × Nat)) (tD tL : Option (List Int32)) (tp wa : List Int32) (z : Int32) (k : MK) (bt : Nat → Int32) (sh : Nat → List Int32) (hd er : List Int32) (im : Int32) (s : Nat → Int32) (A : Nat → Nat → Int32) : Prop :=
  (RMk K (A 0) ∧ RMr hs tD tL tp wa z (A 0)) ∧ (¬ im = 0 → RMk k.1 (A 1) ∧ RMr k.2.1 k.2.2.1 k.2.2.2.1 k.2.2.2.2.1 k.2.2.2.2.2.1 k.2.2.2.2.2.2 (A 1)) ∧ (s 4 = (if im = 0 then 0 else 1) ∧ s 5 = im ∧ s 9 = 0) ∧ (er.length = 6 ∧ ∀ e, e < 6 → A 4 e = er.getD e 0) ∧ (∀ j, j < 4 → A 7 j = bt j ∧ A 8 j = nI (sh j).length ∧ (sh j).length ≤ 40 ∧ ∀ i, i < (sh j).length → A 9 (40 * j + i) = (sh j).getD i 0) ∧ (s 26 = nI hd.length ∧ hd.length ≤ 40 ∧ ∀ i, i < hd.length → A 13 i = hd.getD i 0)
theorem mR {Q : Option Value → AH → Prop} {v : Option Value} {m : Nat} {h g : AH} {s : Nat → Int32} {A : Nat → Nat → Int32} (hg : MP m h s A g) (t : Q v (mh m h s A)) : Q v g := by
  subst hg
  exact t
section MG0
variable {K K2 : CK} {hs hs2 : List (Nat × Nat)} {tD tL tD2 tL2 : Option (List Int32)} {tp wa tp2 wa2 hd er : List Int32} {z im z2 : Int32} {k : MK} {bt : Nat → Int32} {sh : Nat → List Int32} {s s2 : Nat → Int32} {A A2 : Nat → Nat → Int32}
theorem MG.rk (q : MG K hs tD tL tp wa z k bt sh hd er im s A) : RMk K (A 0) := q.1.1
theorem MG.rr (q : MG K hs tD tL tp wa z k bt sh hd er im s A) : RMr hs tD tL tp wa z (A 0) := q.1.2
theorem MG.to (q : MG K hs tD tL tp wa z k bt sh hd er im s A) (hs4 : s2 4 = s 4 ∧ s2 5 = s 5 ∧ s2 9 = s 9 ∧ s2 26 = s 26) (hA : ∀ i, (i = 1 ∨ i = 4 ∨ i = 7 ∨ i = 8 ∨ i = 9 ∨ i = 13) → A2 i = A i) (rk : RMk K2 (A2 0)) (rr : RMr hs2 tD2 tL2 tp2 wa2 z2 (A2 0)) : MG K2 hs2 tD2 tL2 tp2 wa2 z2 k bt sh hd er im s2 A2 := by
  obtain ⟨-, q2, q3, q4, q5, q6⟩ := q
  unfold MG
  rw [hs4.1, hs4.2.1, hs4.2.2.1, hs4.2.2.2, hA 1 (by omega), hA 4 (by omega), hA 7 (by omega), hA 8 (by omega), hA 9 (by omega), hA 13 (by omega)]
  exact ⟨⟨rk, rr⟩, q2, q3, q4, q5, q6⟩
theorem MG.row {f : Nat → Int32} (q : MG K hs tD tL tp wa z k bt sh hd er im s A) (rk : RMk K2 f) (rr : RMr hs2 tD2 tL2 tp2 wa2 z2 f) : MG K2 hs2 tD2 tL2 tp2 wa2 z2 k bt sh hd er im s (upA A 0 f) :=
  q.to ⟨rfl, rfl, rfl, rfl⟩ (fun i hi => upA_n (by omega)) (by rw [upA_s]; exact rk) (by rw [upA_s]; exact rr)
theorem MG.scr (q : MG K hs tD tL tp wa z k bt sh hd er im s A) (f : sFr s s2) : MG K hs tD tL tp wa z k bt sh hd er im s2 A :=
  q.to ⟨f 4 (by omega), f 5 (by omega), f 9 (by omega), f 26 (by omega)⟩ (fun _ _ => rfl) q.rk q.rr
theorem MG.scr6 {f6 : Nat → Int32} (q : MG K hs tD tL tp wa z k bt sh hd er im s A) (f : sFr s s2) : MG K hs tD tL tp wa z k bt sh hd er im s2 (upA A 6 f6) :=
  q.to ⟨f 4 (by omega), f 5 (by omega), f 9 (by omega), f 26 (by omega)⟩ (fun i hi => upA_n (by omega)) q.rk q.rr
theorem MG.err {e : Int32} {j : Nat} (q : MG K hs tD tL tp wa z k bt sh hd er im s A) (hj : j < 6) (he : e = nI j) : MG K hs tD tL tp wa z k bt sh hd (errL er e) im s (upA A 4 (upd (A 4) j (A 4 j + 1))) := by
  obtain ⟨q1, q2, q3, ⟨q4, q5⟩, q6, q7⟩ := q
  have e1 : errL er e = er.set j (er.getD j 0 + 1) := by
    unfold errL
    rw [he, atL_nI (by omega), wrL_nI (by omega)]
  rw [e1]
  refine ⟨q1, q2, q3, ⟨by rw [List.length_set]; exact q4, fun x hx => ?_⟩, q6, q7⟩
  rw [upA_s, getD_set (by omega), q5 j hj]
  by_cases c : x = j
  · rw [if_pos c, c, upd_s]
  · rw [if_neg c, upd_n c]; exact q5 x hx
theorem MG.hb (q : MG K hs tD tL tp wa z k bt sh hd er im s A) (a : Int32) : wiB a 0 (A 0 8 - 1) = hdB hs a := by
  have hl := q.rr.2.1.2
  rw [q.rr.2.1.1.1, wi_m1 (by omega)]
  unfold hdB hasL
  rw [List.length_map]
theorem MG.stb (q : MG K hs tD tL tp wa z k bt sh hd er im s A) (ok : KOk K) (a : Int32) : wiB a 0 (A 0 1 - 1) = decide (0 ≤ a.toInt ∧ a.toInt < kSt K) := by
  have : kSt K ≤ 6 := ok.2.1.2
  rw [q.rk.2.1, wi_m1 (by omega)]
theorem MG.lab (q : MG K hs tD tL tp wa z k bt sh hd er im s A) (ok : KOk K) (a : Int32) : wiB a 1 (A 0 1 - 1) = laB K a := by
  have : kSt K ≤ 6 := ok.2.1.2
  rw [q.rk.2.1, wi_l1 (by omega)]
  rfl
theorem MG.cce (q : MG K hs tD tL tp wa z k bt sh hd er im s A) : A 0 0 * A 0 1 = nI (kRo K * kSt K) := by rw [q.rk.1, q.rk.2.1, pk_mul]
theorem MG.ceb (q : MG K hs tD tL tp wa z k bt sh hd er im s A) (ok : KOk K) (a : Int32) : wiB a 0 (A 0 0 * A 0 1 - 1) = celB K a := by
  have h2 : kSt K ≤ 6 := ok.2.1.2
  have h1 : kRo K ≤ 6 := ok.1.2
  have : kRo K * kSt K ≤ 6 * 6 := Nat.mul_le_mul h1 h2
  rw [q.cce, wi_m1 (by omega)]
  unfold celB
  rw [Int.natCast_mul]
theorem km_wi (a : Int32) : wiB a 0 69 = kmB a := by
  unfold wiB kmB
  rw [t0, show (69 : Int32).toInt = 69 from rfl]
  by_cases e : 0 ≤ a.toInt ∧ a.toInt < 70
  · rw [decide_eq_true e, decide_eq_true (by omega)]
  · rw [decide_eq_false e, decide_eq_false (by omega)]
theorem RMk.ext2 {f f2 : Nat → Int32} (ok : KOk K) (q : RMk K f) (h : ∀ j, (j < 7 ∨ (25 ≤ j ∧ j < 97)) → f2 j = f j) : RMk K f2 := by
  obtain ⟨q0, q1, q2, q3, q4, q5, q6, q7⟩ := q
  refine ⟨(h 0 (by omega)).trans q0, (h 1 (by omega)).trans q1, (h 2 (by omega)).trans q2, (h 3 (by omega)).trans q3, (h 4 (by omega)).trans q4, (h 5 (by omega)).trans q5, (h 6 (by omega)).trans q6, fun r s hr hs => ?_⟩
  have h1 : kRo K ≤ 6 := ok.1.2
  have h2 : kSt K ≤ 6 := ok.2.1.2
  have := cell_lt hr hs
  have : kRo K * kSt K ≤ 6 * 6 := Nat.mul_le_mul h1 h2
  rw [h _ (by omega), h _ (by omega)]
  exact q7 r s hr hs
end MG0
def bareF (a b : Int32) (f : Nat → Int32) : Nat → Int32 := fun j => if j = 0 then a else if j = 1 then b else if 25 ≤ j ∧ j < 97 then (if (j - 25) % 2 = 0 then -1 else 0) else f j
section Pu
variable {m : Nat} {h : AH} {K K2 : CK} {hs hs2 : List (Nat × Nat)} {tD tL tD2 tL2 : Option (List Int32)} {tp wa tp2 wa2 hd er : List Int32} {z im z2 : Int32} {k : MK} {bt : Nat → Int32} {sh : Nat → List Int32} {s s2 : Nat → Int32} {A A2 : Nat → Nat → Int32} {Q : Option Value → AH → Prop}
set_option maxHeartbeats 4000000 in
theorem ct_M_bare (hm : m + 14 < h.1) {a b : Int32} : CV 1 0 0 mX12_bare m [.int a, .int b] (mh m h s A) (fun v g => v = none ∧ MP m h s (upA A 0 (bareF a b (A 0))) g) := by
  refine ⟨mV hm, ?_⟩
  refine ct_of (by decide) (fun _ _ => Nat.le_of_ble_eq_true rfl) ?_
  dsimp only [pad, ent]
  have L : ∀ c, c ≤ 36 → AW (fun _ => True) (rmd 1 0 0) mX12_bare 0 0 16 [some (.ref m), some (.int a), some (.int b), some (.int (nI c))] [] (MP m h s (upA A 0 (fun j => if 25 ≤ j ∧ j < 25 + 2 * c then (if (j - 25) % 2 = 0 then -1 else 0) else upd (upd (A 0) 0 a) 1 b j))) (fun v g => v = none ∧ MP m h s (upA A 0 (bareF a b (A 0))) g) := by
    refine up_loop ?_ ?_
    · skip
      refine r_iload_n (pc := 16) dX12_bare_16 rfl ?_
      refine r_bipush (pc := 17) (v := 36) dX12_bare_17 (by decide) ?_
      refine r_icmp_ge (pc := 19) 54 dX12_bare_19 (by decide) (fun c19 => ?_) (fun c19 => ?_)
      · skip
        refine r_return (pc := 54) dX12_bare_54 rfl ⟨Nat.zero_le _, Nat.zero_le _⟩ (fun gE hg => ?_)
        refine ⟨rfl, ?_⟩
        rw [show bareF a b (A 0) = (fun j => if 25 ≤ j ∧ j < 25 + 2 * 36 then (if (j - 25) % 2 = 0 then -1 else 0) else upd (upd (A 0) 0 a) 1 b j) by
          funext j
          unfold bareF upd
          by_cases e1 : j = 1
          · rw [e1]; rfl
          · by_cases e0 : j = 0
            · rw [e0]; rfl
            · rw [if_neg e0, if_neg e1, if_neg e1, if_neg e0]]
        exact hg
      · skip
        exact absurd (by decide) c19
    · intro c hc ih
      have hT := nI_T (n := c) (by omega)
      have hi1 : (25 : Int32) + 2 * nI c = nI (25 + 2 * c) := ix2 25 2 c
      refine r_iload_n (pc := 16) dX12_bare_16 rfl ?_
      refine r_bipush (pc := 17) (v := 36) dX12_bare_17 (by decide) ?_
      refine r_icmp_ge (pc := 19) 54 dX12_bare_19 (by decide) (fun c19 => ?_) (fun c19 => ?_)
      · skip
        exact absurd c19 (fun x => by have := fa_le.mp x; rw [hT, show (36 : Int32).toInt = 36 from rfl] at this; omega)
      · skip
        refine r_aload_n (pc := 22) dX12_bare_22 rfl ?_
        refine r_getf (pc := 23) (k := 0) dX12_bare_23 hX12 eX12 (by decide) fX12_7 (fun _ q => mo hm q) rfl ?_
        refine r_bipush (pc := 26) (v := 25) dX12_bare_26 (by decide) ?_
        refine r_iconst (pc := 28) (v := 2) dX12_bare_28 (by decide) ?_
        refine r_iload_n (pc := 29) dX12_bare_29 rfl ?_
        refine r_imul (pc := 30) dX12_bare_30 ?_
        refine r_iadd (pc := 31) dX12_bare_31 ?_
        rw [hi1]
        refine r_iconst (pc := 32) (v := (-1)) dX12_bare_32 (by decide) ?_
        refine r_rs (pc := 33) (j := (25 + 2 * c)) hm dX12_bare_33 (nI_T (by omega)) (show (25 + 2 * c) < 267 by omega) ?_
        refine r_aload_n (pc := 34) dX12_bare_34 rfl ?_
        refine r_getf (pc := 35) (k := 0) dX12_bare_35 hX12 eX12 (by decide) fX12_7 (fun _ q => mo hm q) rfl ?_
        refine r_bipush (pc := 38) (v := 25) dX12_bare_38 (by decide) ?_
        refine r_iconst (pc := 40) (v := 2) dX12_bare_40 (by decide) ?_
        refine r_iload_n (pc := 41) dX12_bare_41 rfl ?_
        refine r_imul (pc := 42) dX12_bare_42 ?_
        refine r_iadd (pc := 43) dX12_bare_43 ?_
        rw [hi1]
        refine r_iconst (pc := 44) (v := 1) dX12_bare_44 (by decide) ?_
        refine r_iadd (pc := 45) dX12_bare_45 ?_
        rw [nI_1, show 25 + 2 * c + 1 = 26 + 2 * c by omega]
        refine r_iconst (pc := 46) (v := 0) dX12_bare_46 (by decide) ?_
        refine r_rs (pc := 47) (j := (26 + 2 * c)) hm dX12_bare_47 (nI_T (by omega)) (show (26 + 2 * c) < 267 by omega) ?_
        refine r_iinc1 (pc := 48) dX12_bare_48 rfl (Nat.le_of_ble_eq_true rfl) rfl ?_
        dsimp only [lset]
        refine r_goto (pc := 51) 16 dX12_bare_51 (by decide) ?_
        rw [nI_1]
        refine aw_P (fun g q => ?_) ih
        rw [show (fun j => if 25 ≤ j ∧ j < 25 + 2 * (c + 1) then (if (j - 25) % 2 = 0 then (-1 : Int32) else 0) else upd (upd (A 0) 0 a) 1 b j) = upd (upd (fun j => if 25 ≤ j ∧ j < 25 + 2 * c then (if (j - 25) % 2 = 0 then (-1 : Int32) else 0) else upd (upd (A 0) 0 a) 1 b j) (25 + 2 * c) (-1)) (26 + 2 * c) 0 by
          funext j
          by_cases e1 : j = 26 + 2 * c
          · rw [e1, upd_s, if_pos (by omega), if_neg (by omega)]
          · rw [upd_n e1]
            by_cases e0 : j = 25 + 2 * c
            · rw [e0, upd_s, if_pos (by omega), if_pos (by omega)]
            · rw [upd_n e0]
              by_cases e2 : 25 ≤ j ∧ j < 25 + 2 * c
              · rw [if_pos e2, if_pos (by omega)]
              · rw [if_neg e2, if_neg (by omega)]]
        exact q
  refine aw_P (P' := MP m h s (upA A 0 (A 0))) (fun _ q => by rw [upA_id]; exact q) ?_
  refine r_aload_n (pc := 0) dX12_bare_0 rfl ?_
  refine r_getf (pc := 1) (k := 0) dX12_bare_1 hX12 eX12 (by decide) fX12_7 (fun _ q => mo hm q) rfl ?_
  refine r_iconst (pc := 4) (v := 0) dX12_bare_4 (by decide) ?_
  refine r_iload_n (pc := 5) dX12_bare_5 rfl ?_
  refine r_rs (pc := 6) (j := 0) hm dX12_bare_6 rfl (by decide) ?_
  refine r_aload_n (pc := 7) dX12_bare_7 rfl ?_
  refine r_getf (pc := 8) (k := 0) dX12_bare_8 hX12 eX12 (by decide) fX12_7 (fun _ q => mo hm q) rfl ?_
  refine r_iconst (pc := 11) (v := 1) dX12_bare_11 (by decide) ?_
  refine r_iload_n (pc := 12) dX12_bare_12 rfl ?_
  refine r_rs (pc := 13) (j := 1) hm dX12_bare_13 rfl (by decide) ?_
  refine r_iconst (pc := 14) (v := 0) dX12_bare_14 (by decide) ?_
  refine r_istore_n (pc := 15) dX12_bare_15 rfl (Nat.le_of_ble_eq_true rfl) rfl ?_
  dsimp only [lset]
  refine aw_P (fun g q => ?_) (L 0 (Nat.zero_le _))
  rw [show (fun j => if 25 ≤ j ∧ j < 25 + 2 * 0 then (if (j - 25) % 2 = 0 then (-1 : Int32) else 0) else upd (upd (A 0) 0 a) 1 b j) = upd (upd (A 0) 0 a) 1 b from funext fun j => if_neg (by omega)]
  exact q
theorem RMk_bare {f : Nat → Int32} {a b : Nat} (q : RMk K f) (ha : 1 ≤ a ∧ a ≤ 6) (hb : 1 ≤ b ∧ b ≤ 6) : RMk (buildK K a b) (bareF (nI a) (nI b) f) := by
  obtain ⟨ro, st, mi, he, le, wh, si, ca, w, v⟩ := K
  obtain ⟨q0, q1, q2, q3, q4, q5, q6, q7⟩ := q
  refine ⟨rfl, rfl, q2, q3, q4, q5, q6, fun r s hr hs => ?_⟩
  have hr : r < a := hr
  have hs : s < b := hs
  have := cell_lt hr hs
  have : a * b ≤ 6 * 6 := Nat.mul_le_mul ha.2 hb.2
  show bareF (nI a) (nI b) f (25 + 2 * (r * b + s)) = iI (-1) ∧ bareF (nI a) (nI b) f (26 + 2 * (r * b + s)) = nI 0
  unfold bareF
  rw [if_neg (by omega), if_neg (by omega), if_pos (by omega), if_pos (by omega), if_neg (by omega), if_neg (by omega), if_pos (by omega), if_neg (by omega)]
  exact ⟨rfl, rfl⟩
theorem RMr_bare {f : Nat → Int32} {a b : Int32} (q : RMr hs tD tL tp wa z f) : RMr hs tD tL tp wa z (bareF a b f) := q.ext fun j hj => by
  unfold RJ at hj
  unfold bareF
  rw [if_neg (by omega), if_neg (by omega), if_neg (by omega)]
set_option maxHeartbeats 4000000 in
theorem cm_ceiling (hm : m + 14 < h.1) {a b : Int32} (q : MG K hs tD tL tp wa z k bt sh hd er im s A) (e1 : (wiB a 1 6 && wiB b 1 6) = false → ∀ s2 A2, MG K hs tD tL tp wa z k bt sh hd (errL er 1) im s2 A2 → Q (some (.int (-1000000000 - 1))) (mh m h s2 A2)) (hP : (wiB a 1 6 && wiB b 1 6) = true → ∀ s2 A2, MG (buildK K a.toInt.toNat b.toInt.toNat) hs tD tL tp wa z k bt sh hd er im s2 A2 → Q (some (.int (a * b))) (mh m h s2 A2)) : CV 4 0 0 mX12_ceiling m [.int a, .int b] (mh m h s A) Q := by
  refine ⟨mV hm, ?_⟩
  refine ct_of (by decide) (fun _ _ => Nat.le_of_ble_eq_true rfl) ?_
  dsimp only [pad, ent]
  refine aw_P (P' := MP m h s A) (fun _ q => q) ?_
  refine r_iload_n (pc := 0) dX12_ceiling_0 rfl ?_
  refine r_iconst (pc := 1) (v := 1) dX12_ceiling_1 (by decide) ?_
  refine r_bipush (pc := 2) (v := 6) dX12_ceiling_2 (by decide) ?_
  refine r_Sp (pc := 4) (μ' := mX12_in) dX12_ceiling_4 nX12_57 sX12_in kX12_in rfl rfl (rr (by decide) rfl) rfl ⟨Nat.zero_le _, Nat.zero_le _⟩ (fun h => ct_M_in h) ?_
  refine r_if_eq (pc := 7) 20 dX12_ceiling_7 (by decide) (fun c7 => ?_) (fun c7 => ?_)
  · skip
    have k1 := b2i_0.mp c7
    refine r_aload_n (pc := 20) dX12_ceiling_20 rfl ?_
    refine r_ldc (pc := 21) (v := (-1000000001)) dX12_ceiling_21 qX12_61 ?_
    refine r_Vi (pc := 23) (μ' := mX12_errs) dX12_ceiling_23 nX12_62 iX12_errs vX12_errs kX12_errs rfl rfl (rr (by decide) rfl) rfl ⟨Nat.zero_le _, Nat.zero_le _⟩ (fun _ q_ => cvq q_ (ct_M_errs hm 1 (by decide) (by decide))) ?_
    rw [show (-1000000001 : Int32) = -1000000000 - 1 from rfl]
    refine r_ireturn (pc := 26) (ty := .int) dX12_ceiling_26 rfl rfl ⟨Nat.zero_le _, Nat.zero_le _⟩ (fun gE hg => ?_)
    exact mR hg (e1 (by first | (rw [k1]; rfl) | (rw [k1, k2]; rfl)) _ _ (q.err (by decide) rfl))
  · skip
    have k1 := b2i_n0.mp c7
    refine r_iload_n (pc := 10) dX12_ceiling_10 rfl ?_
    refine r_iconst (pc := 11) (v := 1) dX12_ceiling_11 (by decide) ?_
    refine r_bipush (pc := 12) (v := 6) dX12_ceiling_12 (by decide) ?_
    refine r_Sp (pc := 14) (μ' := mX12_in) dX12_ceiling_14 nX12_57 sX12_in kX12_in rfl rfl (rr (by decide) rfl) rfl ⟨Nat.zero_le _, Nat.zero_le _⟩ (fun h => ct_M_in h) ?_
    refine r_if_ne (pc := 17) 27 dX12_ceiling_17 (by decide) (fun c17 => ?_) (fun c17 => ?_)
    · skip
      have k2 := b2i_n0.mp c17
      have w1 := wi_t k1
      have w2 := wi_t k2
      rw [t1, show (6 : Int32).toInt = 6 from rfl] at w1 w2
      have h1 : a = nI a.toInt.toNat := (nI_tn (by omega) (by omega)).symm
      have h2 : b = nI b.toInt.toNat := (nI_tn (by omega) (by omega)).symm
      refine r_aload_n (pc := 27) dX12_ceiling_27 rfl ?_
      refine r_iload_n (pc := 28) dX12_ceiling_28 rfl ?_
      refine r_iload_n (pc := 29) dX12_ceiling_29 rfl ?_
      refine r_Vv (pc := 30) (μ' := mX12_bare) dX12_ceiling_30 nX12_52 iX12_bare vX12_bare kX12_bare rfl rfl (rr (by decide) rfl) rfl ⟨Nat.zero_le _, Nat.zero_le _⟩ (fun _ q_ => cvq q_ (ct_M_bare hm)) ?_
      refine r_aload_n (pc := 33) dX12_ceiling_33 rfl ?_
      refine r_Vi (pc := 34) (μ' := mX12_cells) dX12_ceiling_34 nX12_66 iX12_cells vX12_cells kX12_cells rfl rfl (rr (by decide) rfl) rfl ⟨Nat.zero_le _, Nat.zero_le _⟩ (fun _ q_ => cvq q_ (ct_M_cells hm)) ?_
      refine r_ireturn (pc := 37) (ty := .int) dX12_ceiling_37 rfl rfl ⟨Nat.zero_le _, Nat.zero_le _⟩ (fun gE hg => ?_)
      exact mR hg (hP (by rw [k1, k2]; rfl) _ _ (q.row (by
        have := RMk_bare (a := a.toInt.toNat) (b := b.toInt.toNat) q.rk (by omega) (by omega)
        rw [← h1, ← h2] at this
        exact this) (RMr_bare q.rr)))
    · skip
      have k2 := b2i_0.mp c17
      refine r_aload_n (pc := 20) dX12_ceiling_20 rfl ?_
      refine r_ldc (pc := 21) (v := (-1000000001)) dX12_ceiling_21 qX12_61 ?_
      refine r_Vi (pc := 23) (μ' := mX12_errs) dX12_ceiling_23 nX12_62 iX12_errs vX12_errs kX12_errs rfl rfl (rr (by decide) rfl) rfl ⟨Nat.zero_le _, Nat.zero_le _⟩ (fun _ q_ => cvq q_ (ct_M_errs hm 1 (by decide) (by decide))) ?_
      rw [show (-1000000001 : Int32) = -1000000000 - 1 from rfl]
      refine r_ireturn (pc := 26) (ty := .int) dX12_ceiling_26 rfl rfl ⟨Nat.zero_le _, Nat.zero_le _⟩ (fun gE hg => ?_)
      exact mR hg (e1 (by first | (rw [k1]; rfl) | (rw [k1, k2]; rfl)) _ _ (q.err (by decide) rfl))
end Pu
