/-! THE REFERENCE reads and works out: its methods' walks -/
def MdS (u : Nat) (na nb nc : Int32) (bs : List Int32) (op : Nat) (σ : RS) (s : Nat → Int32) (A : Nat → Nat → Int32) : Prop := s 10 = nI u ∧ s 11 = nI σ.1 ∧ s 12 = nI bs.length ∧ s 13 = nI op ∧ s 14 = na ∧ s 15 = nb ∧ s 16 = nc ∧ s 17 = b2i σ.2.1 ∧ ∀ j, j < bs.length → A 0 (167 + 50 * u + j) = bs.getD j 0
def sFr (s s2 : Nat → Int32) : Prop := ∀ k, (k < 10 ∨ 17 < k) → s2 k = s k
theorem sFr.rf (s : Nat → Int32) : sFr s s := fun _ _ => rfl
theorem sFr.tr {s s2 s3 : Nat → Int32} (a : sFr s s2) (b : sFr s2 s3) : sFr s s3 := fun k hk => (b k hk).trans (a k hk)
theorem sFr.up {s s2 : Nat → Int32} {k : Nat} {x : Int32} (a : sFr s s2) (h : 10 ≤ k ∧ k ≤ 17) : sFr s (upd s2 k x) := fun j hj => by rw [upd_n (by omega)]; exact a j hj
section Pa
variable {u : Nat} {na nb nc : Int32} {bs : List Int32} {op : Nat} {σ : RS} {s s0 : Nat → Int32} {A : Nat → Nat → Int32} {m : Nat} {h : AH}
theorem MdS.ad (q : MdS u na nb nc bs op σ s A) : MdS u na nb nc bs op (adB σ) (upd s 11 (nI (σ.1 + 1))) A := by
  obtain ⟨q1, q2, q3, q4, q5, q6, q7, q8, q9⟩ := q
  exact ⟨by rw [upd_n (by decide)]; exact q1, upd_s, by rw [upd_n (by decide)]; exact q3, by rw [upd_n (by decide)]; exact q4, by rw [upd_n (by decide)]; exact q5, by rw [upd_n (by decide)]; exact q6, by rw [upd_n (by decide)]; exact q7, by rw [upd_n (by decide)]; exact q8, q9⟩
theorem MdS.fl (q : MdS u na nb nc bs op σ s A) : MdS u na nb nc bs op (flB σ) (upd s 17 0) A := by
  obtain ⟨q1, q2, q3, q4, q5, q6, q7, q8, q9⟩ := q
  exact ⟨by rw [upd_n (by decide)]; exact q1, by rw [upd_n (by decide)]; exact q2, by rw [upd_n (by decide)]; exact q3, by rw [upd_n (by decide)]; exact q4, by rw [upd_n (by decide)]; exact q5, by rw [upd_n (by decide)]; exact q6, by rw [upd_n (by decide)]; exact q7, upd_s, q9⟩
theorem MdS.opn {op2 : Nat} {x : Int32} (q : MdS u na nb nc bs op σ s A) (hx : x = nI op2) : MdS u na nb nc bs op2 σ (upd s 13 x) A := by
  obtain ⟨q1, q2, q3, q4, q5, q6, q7, q8, q9⟩ := q
  exact ⟨by rw [upd_n (by decide)]; exact q1, by rw [upd_n (by decide)]; exact q2, by rw [upd_n (by decide)]; exact q3, by rw [upd_s]; exact hx, by rw [upd_n (by decide)]; exact q5, by rw [upd_n (by decide)]; exact q6, by rw [upd_n (by decide)]; exact q7, by rw [upd_n (by decide)]; exact q8, q9⟩
theorem ct_M_next (hm : m + 14 < h.1) (hu : u < 2) (hb : bs.length ≤ 50) (q : MdS u na nb nc bs op σ s A) (hσ : σ.1 ≤ bs.length) : CV 1 0 0 mX12_byteAt m [.int (nI σ.1)] (mh m h s A) (fun v g => v = some (.int (nxB bs σ)) ∧ MP m h s A g) := by
  have r := ct_M_byteAt (s := s) (A := A) hm q.1 hu q.2.2.1 hb (show σ.1 ≤ 50 by omega)
  have e : (if σ.1 < bs.length then A 0 (167 + 50 * u + σ.1) else -1) = nxB bs σ := by
    unfold nxB
    by_cases c : σ.1 < bs.length
    · rw [if_pos c, if_pos c]; exact q.2.2.2.2.2.2.2.2 σ.1 c
    · rw [if_neg c, if_neg c]
  rw [e] at r
  exact r
/-- what a reading method does: as f does, and its answer is what the steps give -/
def MdC (u : Nat) (na nb nc : Int32) (bs : List Int32) (op D : Nat) (μ : MI) (f : RS → RS) : Prop := ∀ σ : RS, σ.1 ≤ bs.length → σ.2.2.length ≤ σ.1 → σ.2.1 = true → ∃ x, EvR na nb nc σ (f σ) x ∧ ∀ (m : Nat) (h : AH) (s : Nat → Int32) (A : Nat → Nat → Int32), m + 14 < h.1 → MdS u na nb nc bs op σ s A → CV D 0 0 μ m [] (mh m h s A) (fun v g => v = some (.int x) ∧ ∃ s2, (MdS u na nb nc bs op (f σ) s2 A ∧ sFr s s2) ∧ MP m h s2 A g)
set_option maxHeartbeats 4000000 in
theorem ct_M_number (hm : m + 14 < h.1) (hu : u < 2) (hb : bs.length ≤ 50) (q : MdS u na nb nc bs op σ s A) (hσ : σ.1 ≤ bs.length) : CV 3 0 0 mX12_number m [] (mh m h s A) (fun v g => v = some (.int (numE bs 4 0 σ).2) ∧ ∃ s2, (MdS u na nb nc bs op (numE bs 4 0 σ).1 s2 A ∧ sFr s s2) ∧ MP m h s2 A g) := by
  refine ⟨mV hm, ?_⟩
  refine ct_of (by decide) (fun _ _ => Nat.le_of_ble_eq_true rfl) ?_
  dsimp only [pad, ent]
  have L : ∀ j, j ≤ 4 → ∀ (v : Int32) (τ : RS) (s1 : Nat → Int32), MdS u na nb nc bs op τ s1 A → sFr s s1 → τ.1 ≤ bs.length → numE bs (4 - j) v τ = numE bs 4 0 σ → AW (fun _ => True) (rmd 3 0 0) mX12_number 0 0 4 [some (.ref m), some (.int v), some (.int (nI j))] [] (MP m h s1 A) (fun v g => v = some (.int (numE bs 4 0 σ).2) ∧ ∃ s2, (MdS u na nb nc bs op (numE bs 4 0 σ).1 s2 A ∧ sFr s s2) ∧ MP m h s2 A g) := by
    refine up_loop ?_ ?_
    · intro v τ s1 q1 q2 q3 e
      have e : (τ, v) = numE bs 4 0 σ := e
      rw [← e]
      refine r_iload_n (pc := 4) dX12_number_4 rfl ?_
      refine r_iconst (pc := 5) (v := 4) dX12_number_5 (by decide) ?_
      refine r_icmp_ge (pc := 6) 56 dX12_number_6 (by decide) (fun c6 => ?_) (fun c6 => ?_)
      · skip
        refine r_iload_n (pc := 56) dX12_number_56 rfl ?_
        refine r_ireturn (pc := 57) (ty := .int) dX12_number_57 rfl rfl ⟨Nat.zero_le _, Nat.zero_le _⟩ (fun gE hg => ?_)
        exact ⟨rfl, s1, ⟨q1, q2⟩, hg⟩
      · skip
        exact absurd (by decide) c6
    · intro j hj ih v τ s1 q1 q2 q3 e
      have hT := nI_T (n := j) (by omega)
      rw [show 4 - j = (4 - (j + 1)) + 1 by omega] at e
      change (if digB (nxB bs τ) = true then numE bs (4 - (j + 1)) (v * 10 + nxB bs τ - 48) (adB τ) else (τ, v)) = _ at e
      refine r_iload_n (pc := 4) dX12_number_4 rfl ?_
      refine r_iconst (pc := 5) (v := 4) dX12_number_5 (by decide) ?_
      refine r_icmp_ge (pc := 6) 56 dX12_number_6 (by decide) (fun c6 => ?_) (fun c6 => ?_)
      · skip
        exact absurd c6 (fun x => by have := fa_le.mp x; rw [hT, show (4 : Int32).toInt = 4 from rfl] at this; omega)
      · skip
        refine r_aload_n (pc := 9) dX12_number_9 rfl ?_
        refine r_aload_n (pc := 10) dX12_number_10 rfl ?_
        refine r_getf (pc := 11) (k := 11) dX12_number_11 hX12 eX12 (by decide) fX12_132 (fun _ q => mo hm q) rfl ?_
        rw [q1.2.1]
        refine r_Vi (pc := 14) (μ' := mX12_byteAt) dX12_number_14 nX12_135 iX12_byteAt vX12_byteAt kX12_byteAt rfl rfl (rr (by decide) rfl) rfl ⟨Nat.zero_le _, Nat.zero_le _⟩ (fun _ q_ => cvq q_ (ct_M_next hm hu hb q1 q3)) ?_
        refine r_Sp (pc := 17) (μ' := mX12_isDigit) dX12_number_17 nX12_138 sX12_isDigit kX12_isDigit rfl rfl (rr (by decide) rfl) rfl ⟨Nat.zero_le _, Nat.zero_le _⟩ (fun h => ct_M_isDigit h) ?_
        refine r_if_eq (pc := 20) 56 dX12_number_20 (by decide) (fun c20 => ?_) (fun c20 => ?_)
        · skip
          rw [if_neg (by rw [b2i_0.mp c20]; exact Bool.false_ne_true)] at e
          rw [← e]
          refine r_iload_n (pc := 56) dX12_number_56 rfl ?_
          refine r_ireturn (pc := 57) (ty := .int) dX12_number_57 rfl rfl ⟨Nat.zero_le _, Nat.zero_le _⟩ (fun gE hg => ?_)
          exact ⟨rfl, s1, ⟨q1, q2⟩, hg⟩
        · skip
          have hd := b2i_n0.mp c20
          rw [if_pos hd] at e
          refine r_bipush (pc := 23) (v := 10) dX12_number_23 (by decide) ?_
          refine r_iload_n (pc := 25) dX12_number_25 rfl ?_
          refine r_imul (pc := 26) dX12_number_26 ?_
          refine r_aload_n (pc := 27) dX12_number_27 rfl ?_
          refine r_aload_n (pc := 28) dX12_number_28 rfl ?_
          refine r_getf (pc := 29) (k := 11) dX12_number_29 hX12 eX12 (by decide) fX12_132 (fun _ q => mo hm q) rfl ?_
          rw [q1.2.1]
          refine r_Vi (pc := 32) (μ' := mX12_byteAt) dX12_number_32 nX12_135 iX12_byteAt vX12_byteAt kX12_byteAt rfl rfl (rr (by decide) rfl) rfl ⟨Nat.zero_le _, Nat.zero_le _⟩ (fun _ q_ => cvq q_ (ct_M_next hm hu hb q1 q3)) ?_
          refine r_iadd (pc := 35) dX12_number_35 ?_
          refine r_bipush (pc := 36) (v := 48) dX12_number_36 (by decide) ?_
          refine r_isub (pc := 38) dX12_number_38 ?_
          refine r_istore_n (pc := 39) dX12_number_39 rfl (Nat.le_of_ble_eq_true rfl) rfl ?_
          dsimp only [lset]
          refine r_aload_n (pc := 40) dX12_number_40 rfl ?_
          refine r_dup (pc := 41) dX12_number_41 rfl ?_
          refine r_getf (pc := 42) (k := 11) dX12_number_42 hX12 eX12 (by decide) fX12_132 (fun _ q => mo hm q) rfl ?_
          rw [q1.2.1]
          refine r_iconst (pc := 45) (v := 1) dX12_number_45 (by decide) ?_
          refine r_iadd (pc := 46) dX12_number_46 ?_
          rw [nI_1]
          refine r_mp (pc := 47) (k := 11) hm dX12_number_47 fX12_132 (by decide) rfl rfl (fun _ _ => rfl) (fun _ _ => rfl) rfl ?_
          refine r_iinc1 (pc := 50) dX12_number_50 rfl (Nat.le_of_ble_eq_true rfl) rfl ?_
          dsimp only [lset]
          refine r_goto (pc := 53) 4 dX12_number_53 (by decide) ?_
          rw [nI_1, Int32.mul_comm 10 v]
          exact ih _ (adB τ) _ q1.ad (q2.up (by omega)) (dig_nx hd) e
  refine r_iconst (pc := 0) (v := 0) dX12_number_0 (by decide) ?_
  refine r_istore_n (pc := 1) dX12_number_1 rfl (Nat.le_of_ble_eq_true rfl) rfl ?_
  dsimp only [lset]
  refine r_iconst (pc := 2) (v := 0) dX12_number_2 (by decide) ?_
  refine r_istore_n (pc := 3) dX12_number_3 rfl (Nat.le_of_ble_eq_true rfl) rfl ?_
  dsimp only [lset]
  exact L 0 (by omega) 0 σ s q (sFr.rf s) hσ rfl
set_option maxHeartbeats 4000000 in
theorem ct_M_named (hm : m + 14 < h.1) (hu : u < 2) (q : MdS u na nb nc bs op σ s A) {c : Int32} : CV 2 0 0 mX12_named m [.int c] (mh m h s A) (fun v g => v = some (.int (if nameI (nI u) c = 0 then na else if nameI (nI u) c = 1 then nb else if nameI (nI u) c = 2 then nc else 0)) ∧ ∃ s2, (MdS u na nb nc bs op (if 0 ≤ nameI (nI u) c then adB σ else flB σ) s2 A ∧ sFr s s2) ∧ MP m h s2 A g) := by
  refine ⟨mV hm, ?_⟩
  refine ct_of (by decide) (fun _ _ => Nat.le_of_ble_eq_true rfl) ?_
  dsimp only [pad, ent]
  have hn : nameI (nI u) c = if c = 114 then 0 else if c = 115 then 1 else if c = (if nI u = 0 then 104 else 119) then 2 else -1 := rfl
  have fin : ∀ (w i : Int32), nameI (nI u) c = i → 0 ≤ i → (if i = 0 then na else if i = 1 then nb else if i = 2 then nc else 0) = w → ∀ g, MP m h (upd s 11 (nI (σ.1 + 1))) A g → (some (Value.int w) = some (Value.int (if nameI (nI u) c = 0 then na else if nameI (nI u) c = 1 then nb else if nameI (nI u) c = 2 then nc else 0)) ∧ ∃ s2, (MdS u na nb nc bs op (if 0 ≤ nameI (nI u) c then adB σ else flB σ) s2 A ∧ sFr s s2) ∧ MP m h s2 A g) := by
    intro w i e1 e2 e3 g hg
    rw [e1, e3, if_pos e2]
    exact ⟨rfl, _, ⟨q.ad, (sFr.rf s).up (by omega)⟩, hg⟩
  refine aw_P (P' := MP m h s A) (fun _ q => q) ?_
  refine r_iload_n (pc := 0) dX12_named_0 rfl ?_
  refine r_bipush (pc := 1) (v := 114) dX12_named_1 (by decide) ?_
  refine r_icmp_ne (pc := 3) 10 dX12_named_3 (by decide) (fun c3 => ?_) (fun c3 => ?_)
  · skip
    refine r_iconst (pc := 10) (v := 0) dX12_named_10 (by decide) ?_
    refine r_istore_n (pc := 11) dX12_named_11 rfl (Nat.le_of_ble_eq_true rfl) rfl ?_
    dsimp only [lset]
    refine r_iload_n (pc := 12) dX12_named_12 rfl ?_
    refine r_bipush (pc := 13) (v := 115) dX12_named_13 (by decide) ?_
    refine r_icmp_ne (pc := 15) 22 dX12_named_15 (by decide) (fun c15 => ?_) (fun c15 => ?_)
    · skip
      refine r_iconst (pc := 22) (v := 0) dX12_named_22 (by decide) ?_
      refine r_istore_n (pc := 23) dX12_named_23 rfl (Nat.le_of_ble_eq_true rfl) rfl ?_
      dsimp only [lset]
      refine r_iload_n (pc := 24) dX12_named_24 rfl ?_
      refine r_aload_n (pc := 25) dX12_named_25 rfl ?_
      refine r_getf (pc := 26) (k := 10) dX12_named_26 hX12 eX12 (by decide) fX12_126 (fun _ q => mo hm q) rfl ?_
      rw [q.1]
      refine r_if_ne (pc := 29) 37 dX12_named_29 (by decide) (fun c29 => ?_) (fun c29 => ?_)
      · skip
        have hU : (if nI u = 0 then (104 : Int32) else 119) = 119 := if_neg c29
        refine r_bipush (pc := 37) (v := 119) dX12_named_37 (by decide) ?_
        refine r_icmp_ne (pc := 39) 46 dX12_named_39 (by decide) (fun c39 => ?_) (fun c39 => ?_)
        · skip
          refine r_iconst (pc := 46) (v := 0) dX12_named_46 (by decide) ?_
          refine r_istore (pc := 47) dX12_named_47 (Nat.le_of_ble_eq_true rfl) rfl ?_
          dsimp only [lset]
          refine r_iload_n (pc := 49) dX12_named_49 rfl ?_
          refine r_if_ne (pc := 50) 67 dX12_named_50 (by decide) (fun c50 => ?_) (fun c50 => ?_)
          · skip
            first
            | exact absurd rfl c50
            | skip
              refine r_aload_n (pc := 67) dX12_named_67 rfl ?_
              refine r_dup (pc := 68) dX12_named_68 rfl ?_
              refine r_getf (pc := 69) (k := 11) dX12_named_69 hX12 eX12 (by decide) fX12_132 (fun _ q => mo hm q) rfl ?_
              rw [q.2.1]
              refine r_iconst (pc := 72) (v := 1) dX12_named_72 (by decide) ?_
              refine r_iadd (pc := 73) dX12_named_73 ?_
              rw [nI_1]
              refine r_mp (pc := 74) (k := 11) hm dX12_named_74 fX12_132 (by decide) rfl rfl (fun _ _ => rfl) (fun _ _ => rfl) rfl ?_
              refine r_iload_n (pc := 77) dX12_named_77 rfl ?_
              refine r_if_eq (pc := 78) 88 dX12_named_78 (by decide) (fun c78 => ?_) (fun c78 => ?_)
              · skip
                first
                | exact absurd c78 (by decide)
                | skip
                  refine r_iload_n (pc := 88) dX12_named_88 rfl ?_
                  refine r_if_eq (pc := 89) 99 dX12_named_89 (by decide) (fun c89 => ?_) (fun c89 => ?_)
                  · skip
                    first
                    | exact absurd c89 (by decide)
                    | skip
                      refine r_aload_n (pc := 99) dX12_named_99 rfl ?_
                      refine r_getf (pc := 100) (k := 16) dX12_named_100 hX12 eX12 (by decide) fX12_150 (fun _ q => mo hm q) rfl ?_
                      refine r_ireturn (pc := 103) (ty := .int) dX12_named_103 rfl rfl ⟨Nat.zero_le _, Nat.zero_le _⟩ (fun gE hg => ?_)
                      first
                      | exact fin _ 0 (hn.trans (if_pos c3)) (by decide) q.2.2.2.2.1.symm gE hg
                      | exact fin _ 1 (hn.trans ((if_neg c3).trans (if_pos c15))) (by decide) q.2.2.2.2.2.1.symm gE hg
                      | exact fin _ 2 (hn.trans ((if_neg c3).trans ((if_neg c15).trans (if_pos (c39.trans hU.symm))))) (by decide) q.2.2.2.2.2.2.1.symm gE hg
                  · skip
                    first
                    | exact absurd rfl c89
                    | skip
                      refine r_aload_n (pc := 92) dX12_named_92 rfl ?_
                      refine r_getf (pc := 93) (k := 15) dX12_named_93 hX12 eX12 (by decide) fX12_147 (fun _ q => mo hm q) rfl ?_
                      refine r_goto (pc := 96) 103 dX12_named_96 (by decide) ?_
                      refine r_ireturn (pc := 103) (ty := .int) dX12_named_103 rfl rfl ⟨Nat.zero_le _, Nat.zero_le _⟩ (fun gE hg => ?_)
                      first
                      | exact fin _ 0 (hn.trans (if_pos c3)) (by decide) q.2.2.2.2.1.symm gE hg
                      | exact fin _ 1 (hn.trans ((if_neg c3).trans (if_pos c15))) (by decide) q.2.2.2.2.2.1.symm gE hg
                      | exact fin _ 2 (hn.trans ((if_neg c3).trans ((if_neg c15).trans (if_pos (c39.trans hU.symm))))) (by decide) q.2.2.2.2.2.2.1.symm gE hg
              · skip
                first
                | exact absurd rfl c78
                | skip
                  refine r_aload_n (pc := 81) dX12_named_81 rfl ?_
                  refine r_getf (pc := 82) (k := 14) dX12_named_82 hX12 eX12 (by decide) fX12_144 (fun _ q => mo hm q) rfl ?_
                  refine r_goto (pc := 85) 103 dX12_named_85 (by decide) ?_
                  refine r_ireturn (pc := 103) (ty := .int) dX12_named_103 rfl rfl ⟨Nat.zero_le _, Nat.zero_le _⟩ (fun gE hg => ?_)
                  first
                  | exact fin _ 0 (hn.trans (if_pos c3)) (by decide) q.2.2.2.2.1.symm gE hg
                  | exact fin _ 1 (hn.trans ((if_neg c3).trans (if_pos c15))) (by decide) q.2.2.2.2.2.1.symm gE hg
                  | exact fin _ 2 (hn.trans ((if_neg c3).trans ((if_neg c15).trans (if_pos (c39.trans hU.symm))))) (by decide) q.2.2.2.2.2.2.1.symm gE hg
          · skip
            first
            | exact absurd c50 (by decide)
            | skip
              refine r_iload_n (pc := 53) dX12_named_53 rfl ?_
              refine r_if_ne (pc := 54) 67 dX12_named_54 (by decide) (fun c54 => ?_) (fun c54 => ?_)
              · skip
                first
                | exact absurd rfl c54
                | skip
                  refine r_aload_n (pc := 67) dX12_named_67 rfl ?_
                  refine r_dup (pc := 68) dX12_named_68 rfl ?_
                  refine r_getf (pc := 69) (k := 11) dX12_named_69 hX12 eX12 (by decide) fX12_132 (fun _ q => mo hm q) rfl ?_
                  rw [q.2.1]
                  refine r_iconst (pc := 72) (v := 1) dX12_named_72 (by decide) ?_
                  refine r_iadd (pc := 73) dX12_named_73 ?_
                  rw [nI_1]
                  refine r_mp (pc := 74) (k := 11) hm dX12_named_74 fX12_132 (by decide) rfl rfl (fun _ _ => rfl) (fun _ _ => rfl) rfl ?_
                  refine r_iload_n (pc := 77) dX12_named_77 rfl ?_
                  refine r_if_eq (pc := 78) 88 dX12_named_78 (by decide) (fun c78 => ?_) (fun c78 => ?_)
                  · skip
                    first
                    | exact absurd c78 (by decide)
                    | skip
                      refine r_iload_n (pc := 88) dX12_named_88 rfl ?_
                      refine r_if_eq (pc := 89) 99 dX12_named_89 (by decide) (fun c89 => ?_) (fun c89 => ?_)
                      · skip
                        first
                        | exact absurd c89 (by decide)
                        | skip
                          refine r_aload_n (pc := 99) dX12_named_99 rfl ?_
                          refine r_getf (pc := 100) (k := 16) dX12_named_100 hX12 eX12 (by decide) fX12_150 (fun _ q => mo hm q) rfl ?_
                          refine r_ireturn (pc := 103) (ty := .int) dX12_named_103 rfl rfl ⟨Nat.zero_le _, Nat.zero_le _⟩ (fun gE hg => ?_)
                          first
                          | exact fin _ 0 (hn.trans (if_pos c3)) (by decide) q.2.2.2.2.1.symm gE hg
                          | exact fin _ 1 (hn.trans ((if_neg c3).trans (if_pos c15))) (by decide) q.2.2.2.2.2.1.symm gE hg
                          | exact fin _ 2 (hn.trans ((if_neg c3).trans ((if_neg c15).trans (if_pos (c39.trans hU.symm))))) (by decide) q.2.2.2.2.2.2.1.symm gE hg
                      · skip
                        first
                        | exact absurd rfl c89
                        | skip
                          refine r_aload_n (pc := 92) dX12_named_92 rfl ?_
                          refine r_getf (pc := 93) (k := 15) dX12_named_93 hX12 eX12 (by decide) fX12_147 (fun _ q => mo hm q) rfl ?_
                          refine r_goto (pc := 96) 103 dX12_named_96 (by decide) ?_
                          refine r_ireturn (pc := 103) (ty := .int) dX12_named_103 rfl rfl ⟨Nat.zero_le _, Nat.zero_le _⟩ (fun gE hg => ?_)
                          first
                          | exact fin _ 0 (hn.trans (if_pos c3)) (by decide) q.2.2.2.2.1.symm gE hg
                          | exact fin _ 1 (hn.trans ((if_neg c3).trans (if_pos c15))) (by decide) q.2.2.2.2.2.1.symm gE hg
                          | exact fin _ 2 (hn.trans ((if_neg c3).trans ((if_neg c15).trans (if_pos (c39.trans hU.symm))))) (by decide) q.2.2.2.2.2.2.1.symm gE hg
                  · skip
                    first
                    | exact absurd rfl c78
                    | skip
                      refine r_aload_n (pc := 81) dX12_named_81 rfl ?_
                      refine r_getf (pc := 82) (k := 14) dX12_named_82 hX12 eX12 (by decide) fX12_144 (fun _ q => mo hm q) rfl ?_
                      refine r_goto (pc := 85) 103 dX12_named_85 (by decide) ?_
                      refine r_ireturn (pc := 103) (ty := .int) dX12_named_103 rfl rfl ⟨Nat.zero_le _, Nat.zero_le _⟩ (fun gE hg => ?_)
                      first
                      | exact fin _ 0 (hn.trans (if_pos c3)) (by decide) q.2.2.2.2.1.symm gE hg
                      | exact fin _ 1 (hn.trans ((if_neg c3).trans (if_pos c15))) (by decide) q.2.2.2.2.2.1.symm gE hg
                      | exact fin _ 2 (hn.trans ((if_neg c3).trans ((if_neg c15).trans (if_pos (c39.trans hU.symm))))) (by decide) q.2.2.2.2.2.2.1.symm gE hg
              · skip
                first
                | exact absurd c54 (by decide)
                | skip
                  refine r_iload (pc := 57) dX12_named_57 rfl ?_
                  refine r_if_ne (pc := 59) 67 dX12_named_59 (by decide) (fun c59 => ?_) (fun c59 => ?_)
                  · skip
                    first
                    | exact absurd rfl c59
                    | skip
                      refine r_aload_n (pc := 67) dX12_named_67 rfl ?_
                      refine r_dup (pc := 68) dX12_named_68 rfl ?_
                      refine r_getf (pc := 69) (k := 11) dX12_named_69 hX12 eX12 (by decide) fX12_132 (fun _ q => mo hm q) rfl ?_
                      rw [q.2.1]
                      refine r_iconst (pc := 72) (v := 1) dX12_named_72 (by decide) ?_
                      refine r_iadd (pc := 73) dX12_named_73 ?_
                      rw [nI_1]
                      refine r_mp (pc := 74) (k := 11) hm dX12_named_74 fX12_132 (by decide) rfl rfl (fun _ _ => rfl) (fun _ _ => rfl) rfl ?_
                      refine r_iload_n (pc := 77) dX12_named_77 rfl ?_
                      refine r_if_eq (pc := 78) 88 dX12_named_78 (by decide) (fun c78 => ?_) (fun c78 => ?_)
                      · skip
                        first
                        | exact absurd c78 (by decide)
                        | skip
                          refine r_iload_n (pc := 88) dX12_named_88 rfl ?_
                          refine r_if_eq (pc := 89) 99 dX12_named_89 (by decide) (fun c89 => ?_) (fun c89 => ?_)
                          · skip
                            first
                            | exact absurd c89 (by decide)
                            | skip
                              refine r_aload_n (pc := 99) dX12_named_99 rfl ?_
                              refine r_getf (pc := 100) (k := 16) dX12_named_100 hX12 eX12 (by decide) fX12_150 (fun _ q => mo hm q) rfl ?_
                              refine r_ireturn (pc := 103) (ty := .int) dX12_named_103 rfl rfl ⟨Nat.zero_le _, Nat.zero_le _⟩ (fun gE hg => ?_)
                              first
                              | exact fin _ 0 (hn.trans (if_pos c3)) (by decide) q.2.2.2.2.1.symm gE hg
                              | exact fin _ 1 (hn.trans ((if_neg c3).trans (if_pos c15))) (by decide) q.2.2.2.2.2.1.symm gE hg
                              | exact fin _ 2 (hn.trans ((if_neg c3).trans ((if_neg c15).trans (if_pos (c39.trans hU.symm))))) (by decide) q.2.2.2.2.2.2.1.symm gE hg
                          · skip
                            first
                            | exact absurd rfl c89
                            | skip
                              refine r_aload_n (pc := 92) dX12_named_92 rfl ?_
                              refine r_getf (pc := 93) (k := 15) dX12_named_93 hX12 eX12 (by decide) fX12_147 (fun _ q => mo hm q) rfl ?_
                              refine r_goto (pc := 96) 103 dX12_named_96 (by decide) ?_
                              refine r_ireturn (pc := 103) (ty := .int) dX12_named_103 rfl rfl ⟨Nat.zero_le _, Nat.zero_le _⟩ (fun gE hg => ?_)
                              first
                              | exact fin _ 0 (hn.trans (if_pos c3)) (by decide) q.2.2.2.2.1.symm gE hg
                              | exact fin _ 1 (hn.trans ((if_neg c3).trans (if_pos c15))) (by decide) q.2.2.2.2.2.1.symm gE hg
                              | exact fin _ 2 (hn.trans ((if_neg c3).trans ((if_neg c15).trans (if_pos (c39.trans hU.symm))))) (by decide) q.2.2.2.2.2.2.1.symm gE hg
                      · skip
                        first
                        | exact absurd rfl c78
                        | skip
                          refine r_aload_n (pc := 81) dX12_named_81 rfl ?_
                          refine r_getf (pc := 82) (k := 14) dX12_named_82 hX12 eX12 (by decide) fX12_144 (fun _ q => mo hm q) rfl ?_
                          refine r_goto (pc := 85) 103 dX12_named_85 (by decide) ?_
                          refine r_ireturn (pc := 103) (ty := .int) dX12_named_103 rfl rfl ⟨Nat.zero_le _, Nat.zero_le _⟩ (fun gE hg => ?_)
                          first
                          | exact fin _ 0 (hn.trans (if_pos c3)) (by decide) q.2.2.2.2.1.symm gE hg
                          | exact fin _ 1 (hn.trans ((if_neg c3).trans (if_pos c15))) (by decide) q.2.2.2.2.2.1.symm gE hg
                          | exact fin _ 2 (hn.trans ((if_neg c3).trans ((if_neg c15).trans (if_pos (c39.trans hU.symm))))) (by decide) q.2.2.2.2.2.2.1.symm gE hg
                  · skip
                    first
                    | exact absurd c59 (by decide)
                    | skip
                      refine r_aload_n (pc := 62) dX12_named_62 rfl ?_
                      refine r_Vi (pc := 63) (μ' := mX12_fails) dX12_named_63 nX12_141 iX12_fails vX12_fails kX12_fails rfl rfl (rr (by decide) rfl) rfl ⟨Nat.zero_le _, Nat.zero_le _⟩ (fun _ q_ => cvq q_ (ct_M_fails hm)) ?_
                      refine r_ireturn (pc := 66) (ty := .int) dX12_named_66 rfl rfl ⟨Nat.zero_le _, Nat.zero_le _⟩ (fun gE hg => ?_)
                      have e1 : nameI (nI u) c = -1 := hn.trans ((if_neg c3).trans ((if_neg c15).trans (if_neg (fun x => c39 (x.trans hU)))))
                      rw [e1, if_neg (by decide), if_neg (by decide), if_neg (by decide), if_neg (by decide)]
                      exact ⟨rfl, _, ⟨q.fl, (sFr.rf s).up (by omega)⟩, hg⟩
        · skip
          refine r_iconst (pc := 42) (v := 1) dX12_named_42 (by decide) ?_
          refine r_goto (pc := 43) 47 dX12_named_43 (by decide) ?_
          refine r_istore (pc := 47) dX12_named_47 (Nat.le_of_ble_eq_true rfl) rfl ?_
          dsimp only [lset]
          refine r_iload_n (pc := 49) dX12_named_49 rfl ?_
          refine r_if_ne (pc := 50) 67 dX12_named_50 (by decide) (fun c50 => ?_) (fun c50 => ?_)
          · skip
            first
            | exact absurd rfl c50
            | skip
              refine r_aload_n (pc := 67) dX12_named_67 rfl ?_
              refine r_dup (pc := 68) dX12_named_68 rfl ?_
              refine r_getf (pc := 69) (k := 11) dX12_named_69 hX12 eX12 (by decide) fX12_132 (fun _ q => mo hm q) rfl ?_
              rw [q.2.1]
              refine r_iconst (pc := 72) (v := 1) dX12_named_72 (by decide) ?_
              refine r_iadd (pc := 73) dX12_named_73 ?_
              rw [nI_1]
              refine r_mp (pc := 74) (k := 11) hm dX12_named_74 fX12_132 (by decide) rfl rfl (fun _ _ => rfl) (fun _ _ => rfl) rfl ?_
              refine r_iload_n (pc := 77) dX12_named_77 rfl ?_
              refine r_if_eq (pc := 78) 88 dX12_named_78 (by decide) (fun c78 => ?_) (fun c78 => ?_)
              · skip
                first
                | exact absurd c78 (by decide)
                | skip
                  refine r_iload_n (pc := 88) dX12_named_88 rfl ?_
                  refine r_if_eq (pc := 89) 99 dX12_named_89 (by decide) (fun c89 => ?_) (fun c89 => ?_)
                  · skip
                    first
                    | exact absurd c89 (by decide)
                    | skip
                      refine r_aload_n (pc := 99) dX12_named_99 rfl ?_
                      refine r_getf (pc := 100) (k := 16) dX12_named_100 hX12 eX12 (by decide) fX12_150 (fun _ q => mo hm q) rfl ?_
                      refine r_ireturn (pc := 103) (ty := .int) dX12_named_103 rfl rfl ⟨Nat.zero_le _, Nat.zero_le _⟩ (fun gE hg => ?_)
                      first
                      | exact fin _ 0 (hn.trans (if_pos c3)) (by decide) q.2.2.2.2.1.symm gE hg
                      | exact fin _ 1 (hn.trans ((if_neg c3).trans (if_pos c15))) (by decide) q.2.2.2.2.2.1.symm gE hg
                      | exact fin _ 2 (hn.trans ((if_neg c3).trans ((if_neg c15).trans (if_pos (c39.trans hU.symm))))) (by decide) q.2.2.2.2.2.2.1.symm gE hg
                  · skip
                    first
                    | exact absurd rfl c89
                    | skip
                      refine r_aload_n (pc := 92) dX12_named_92 rfl ?_
                      refine r_getf (pc := 93) (k := 15) dX12_named_93 hX12 eX12 (by decide) fX12_147 (fun _ q => mo hm q) rfl ?_
                      refine r_goto (pc := 96) 103 dX12_named_96 (by decide) ?_
                      refine r_ireturn (pc := 103) (ty := .int) dX12_named_103 rfl rfl ⟨Nat.zero_le _, Nat.zero_le _⟩ (fun gE hg => ?_)
                      first
                      | exact fin _ 0 (hn.trans (if_pos c3)) (by decide) q.2.2.2.2.1.symm gE hg
                      | exact fin _ 1 (hn.trans ((if_neg c3).trans (if_pos c15))) (by decide) q.2.2.2.2.2.1.symm gE hg
                      | exact fin _ 2 (hn.trans ((if_neg c3).trans ((if_neg c15).trans (if_pos (c39.trans hU.symm))))) (by decide) q.2.2.2.2.2.2.1.symm gE hg
              · skip
                first
                | exact absurd rfl c78
                | skip
                  refine r_aload_n (pc := 81) dX12_named_81 rfl ?_
                  refine r_getf (pc := 82) (k := 14) dX12_named_82 hX12 eX12 (by decide) fX12_144 (fun _ q => mo hm q) rfl ?_
                  refine r_goto (pc := 85) 103 dX12_named_85 (by decide) ?_
                  refine r_ireturn (pc := 103) (ty := .int) dX12_named_103 rfl rfl ⟨Nat.zero_le _, Nat.zero_le _⟩ (fun gE hg => ?_)
                  first
                  | exact fin _ 0 (hn.trans (if_pos c3)) (by decide) q.2.2.2.2.1.symm gE hg
                  | exact fin _ 1 (hn.trans ((if_neg c3).trans (if_pos c15))) (by decide) q.2.2.2.2.2.1.symm gE hg
                  | exact fin _ 2 (hn.trans ((if_neg c3).trans ((if_neg c15).trans (if_pos (c39.trans hU.symm))))) (by decide) q.2.2.2.2.2.2.1.symm gE hg
          · skip
            first
            | exact absurd c50 (by decide)
            | skip
              refine r_iload_n (pc := 53) dX12_named_53 rfl ?_
              refine r_if_ne (pc := 54) 67 dX12_named_54 (by decide) (fun c54 => ?_) (fun c54 => ?_)
              · skip
                first
                | exact absurd rfl c54
                | skip
                  refine r_aload_n (pc := 67) dX12_named_67 rfl ?_
                  refine r_dup (pc := 68) dX12_named_68 rfl ?_
                  refine r_getf (pc := 69) (k := 11) dX12_named_69 hX12 eX12 (by decide) fX12_132 (fun _ q => mo hm q) rfl ?_
                  rw [q.2.1]
                  refine r_iconst (pc := 72) (v := 1) dX12_named_72 (by decide) ?_
                  refine r_iadd (pc := 73) dX12_named_73 ?_
                  rw [nI_1]
                  refine r_mp (pc := 74) (k := 11) hm dX12_named_74 fX12_132 (by decide) rfl rfl (fun _ _ => rfl) (fun _ _ => rfl) rfl ?_
                  refine r_iload_n (pc := 77) dX12_named_77 rfl ?_
                  refine r_if_eq (pc := 78) 88 dX12_named_78 (by decide) (fun c78 => ?_) (fun c78 => ?_)
                  · skip
                    first
                    | exact absurd c78 (by decide)
                    | skip
                      refine r_iload_n (pc := 88) dX12_named_88 rfl ?_
                      refine r_if_eq (pc := 89) 99 dX12_named_89 (by decide) (fun c89 => ?_) (fun c89 => ?_)
                      · skip
                        first
                        | exact absurd c89 (by decide)
                        | skip
                          refine r_aload_n (pc := 99) dX12_named_99 rfl ?_
                          refine r_getf (pc := 100) (k := 16) dX12_named_100 hX12 eX12 (by decide) fX12_150 (fun _ q => mo hm q) rfl ?_
                          refine r_ireturn (pc := 103) (ty := .int) dX12_named_103 rfl rfl ⟨Nat.zero_le _, Nat.zero_le _⟩ (fun gE hg => ?_)
                          first
                          | exact fin _ 0 (hn.trans (if_pos c3)) (by decide) q.2.2.2.2.1.symm gE hg
                          | exact fin _ 1 (hn.trans ((if_neg c3).trans (if_pos c15))) (by decide) q.2.2.2.2.2.1.symm gE hg
                          | exact fin _ 2 (hn.trans ((if_neg c3).trans ((if_neg c15).trans (if_pos (c39.trans hU.symm))))) (by decide) q.2.2.2.2.2.2.1.symm gE hg
                      · skip
                        first
                        | exact absurd rfl c89
                        | skip
                          refine r_aload_n (pc := 92) dX12_named_92 rfl ?_
                          refine r_getf (pc := 93) (k := 15) dX12_named_93 hX12 eX12 (by decide) fX12_147 (fun _ q => mo hm q) rfl ?_
                          refine r_goto (pc := 96) 103 dX12_named_96 (by decide) ?_
                          refine r_ireturn (pc := 103) (ty := .int) dX12_named_103 rfl rfl ⟨Nat.zero_le _, Nat.zero_le _⟩ (fun gE hg => ?_)
                          first
                          | exact fin _ 0 (hn.trans (if_pos c3)) (by decide) q.2.2.2.2.1.symm gE hg
                          | exact fin _ 1 (hn.trans ((if_neg c3).trans (if_pos c15))) (by decide) q.2.2.2.2.2.1.symm gE hg
                          | exact fin _ 2 (hn.trans ((if_neg c3).trans ((if_neg c15).trans (if_pos (c39.trans hU.symm))))) (by decide) q.2.2.2.2.2.2.1.symm gE hg
                  · skip
                    first
                    | exact absurd rfl c78
                    | skip
                      refine r_aload_n (pc := 81) dX12_named_81 rfl ?_
                      refine r_getf (pc := 82) (k := 14) dX12_named_82 hX12 eX12 (by decide) fX12_144 (fun _ q => mo hm q) rfl ?_
                      refine r_goto (pc := 85) 103 dX12_named_85 (by decide) ?_
                      refine r_ireturn (pc := 103) (ty := .int) dX12_named_103 rfl rfl ⟨Nat.zero_le _, Nat.zero_le _⟩ (fun gE hg => ?_)
                      first
                      | exact fin _ 0 (hn.trans (if_pos c3)) (by decide) q.2.2.2.2.1.symm gE hg
                      | exact fin _ 1 (hn.trans ((if_neg c3).trans (if_pos c15))) (by decide) q.2.2.2.2.2.1.symm gE hg
                      | exact fin _ 2 (hn.trans ((if_neg c3).trans ((if_neg c15).trans (if_pos (c39.trans hU.symm))))) (by decide) q.2.2.2.2.2.2.1.symm gE hg
              · skip
                first
                | exact absurd c54 (by decide)
                | skip
                  refine r_iload (pc := 57) dX12_named_57 rfl ?_
                  refine r_if_ne (pc := 59) 67 dX12_named_59 (by decide) (fun c59 => ?_) (fun c59 => ?_)
                  · skip
                    first
                    | exact absurd rfl c59
                    | skip
                      refine r_aload_n (pc := 67) dX12_named_67 rfl ?_
                      refine r_dup (pc := 68) dX12_named_68 rfl ?_
                      refine r_getf (pc := 69) (k := 11) dX12_named_69 hX12 eX12 (by decide) fX12_132 (fun _ q => mo hm q) rfl ?_
                      rw [q.2.1]
                      refine r_iconst (pc := 72) (v := 1) dX12_named_72 (by decide) ?_
                      refine r_iadd (pc := 73) dX12_named_73 ?_
                      rw [nI_1]
                      refine r_mp (pc := 74) (k := 11) hm dX12_named_74 fX12_132 (by decide) rfl rfl (fun _ _ => rfl) (fun _ _ => rfl) rfl ?_
                      refine r_iload_n (pc := 77) dX12_named_77 rfl ?_
                      refine r_if_eq (pc := 78) 88 dX12_named_78 (by decide) (fun c78 => ?_) (fun c78 => ?_)
                      · skip
                        first
                        | exact absurd c78 (by decide)
                        | skip
                          refine r_iload_n (pc := 88) dX12_named_88 rfl ?_
                          refine r_if_eq (pc := 89) 99 dX12_named_89 (by decide) (fun c89 => ?_) (fun c89 => ?_)
                          · skip
                            first
                            | exact absurd c89 (by decide)
                            | skip
                              refine r_aload_n (pc := 99) dX12_named_99 rfl ?_
                              refine r_getf (pc := 100) (k := 16) dX12_named_100 hX12 eX12 (by decide) fX12_150 (fun _ q => mo hm q) rfl ?_
                              refine r_ireturn (pc := 103) (ty := .int) dX12_named_103 rfl rfl ⟨Nat.zero_le _, Nat.zero_le _⟩ (fun gE hg => ?_)
                              first
                              | exact fin _ 0 (hn.trans (if_pos c3)) (by decide) q.2.2.2.2.1.symm gE hg
                              | exact fin _ 1 (hn.trans ((if_neg c3).trans (if_pos c15))) (by decide) q.2.2.2.2.2.1.symm gE hg
                              | exact fin _ 2 (hn.trans ((if_neg c3).trans ((if_neg c15).trans (if_pos (c39.trans hU.symm))))) (by decide) q.2.2.2.2.2.2.1.symm gE hg
                          · skip
                            first
                            | exact absurd rfl c89
                            | skip
                              refine r_aload_n (pc := 92) dX12_named_92 rfl ?_
                              refine r_getf (pc := 93) (k := 15) dX12_named_93 hX12 eX12 (by decide) fX12_147 (fun _ q => mo hm q) rfl ?_
                              refine r_goto (pc := 96) 103 dX12_named_96 (by decide) ?_
                              refine r_ireturn (pc := 103) (ty := .int) dX12_named_103 rfl rfl ⟨Nat.zero_le _, Nat.zero_le _⟩ (fun gE hg => ?_)
                              first
                              | exact fin _ 0 (hn.trans (if_pos c3)) (by decide) q.2.2.2.2.1.symm gE hg
                              | exact fin _ 1 (hn.trans ((if_neg c3).trans (if_pos c15))) (by decide) q.2.2.2.2.2.1.symm gE hg
                              | exact fin _ 2 (hn.trans ((if_neg c3).trans ((if_neg c15).trans (if_pos (c39.trans hU.symm))))) (by decide) q.2.2.2.2.2.2.1.symm gE hg
                      · skip
                        first
                        | exact absurd rfl c78
                        | skip
                          refine r_aload_n (pc := 81) dX12_named_81 rfl ?_
                          refine r_getf (pc := 82) (k := 14) dX12_named_82 hX12 eX12 (by decide) fX12_144 (fun _ q => mo hm q) rfl ?_
                          refine r_goto (pc := 85) 103 dX12_named_85 (by decide) ?_
                          refine r_ireturn (pc := 103) (ty := .int) dX12_named_103 rfl rfl ⟨Nat.zero_le _, Nat.zero_le _⟩ (fun gE hg => ?_)
                          first
                          | exact fin _ 0 (hn.trans (if_pos c3)) (by decide) q.2.2.2.2.1.symm gE hg
                          | exact fin _ 1 (hn.trans ((if_neg c3).trans (if_pos c15))) (by decide) q.2.2.2.2.2.1.symm gE hg
                          | exact fin _ 2 (hn.trans ((if_neg c3).trans ((if_neg c15).trans (if_pos (c39.trans hU.symm))))) (by decide) q.2.2.2.2.2.2.1.symm gE hg
                  · skip
                    first
                    | exact absurd c59 (by decide)
                    | skip
                      refine r_aload_n (pc := 62) dX12_named_62 rfl ?_
                      refine r_Vi (pc := 63) (μ' := mX12_fails) dX12_named_63 nX12_141 iX12_fails vX12_fails kX12_fails rfl rfl (rr (by decide) rfl) rfl ⟨Nat.zero_le _, Nat.zero_le _⟩ (fun _ q_ => cvq q_ (ct_M_fails hm)) ?_
                      refine r_ireturn (pc := 66) (ty := .int) dX12_named_66 rfl rfl ⟨Nat.zero_le _, Nat.zero_le _⟩ (fun gE hg => ?_)
                      have e1 : nameI (nI u) c = -1 := hn.trans ((if_neg c3).trans ((if_neg c15).trans (if_neg (fun x => c39 (x.trans hU)))))
                      rw [e1, if_neg (by decide), if_neg (by decide), if_neg (by decide), if_neg (by decide)]
                      exact ⟨rfl, _, ⟨q.fl, (sFr.rf s).up (by omega)⟩, hg⟩
      · skip
        have hU : (if nI u = 0 then (104 : Int32) else 119) = 104 := if_pos c29
        refine r_bipush (pc := 32) (v := 104) dX12_named_32 (by decide) ?_
        refine r_goto (pc := 34) 39 dX12_named_34 (by decide) ?_
        refine r_icmp_ne (pc := 39) 46 dX12_named_39 (by decide) (fun c39 => ?_) (fun c39 => ?_)
        · skip
          refine r_iconst (pc := 46) (v := 0) dX12_named_46 (by decide) ?_
          refine r_istore (pc := 47) dX12_named_47 (Nat.le_of_ble_eq_true rfl) rfl ?_
          dsimp only [lset]
          refine r_iload_n (pc := 49) dX12_named_49 rfl ?_
          refine r_if_ne (pc := 50) 67 dX12_named_50 (by decide) (fun c50 => ?_) (fun c50 => ?_)
          · skip
            first
            | exact absurd rfl c50
            | skip
              refine r_aload_n (pc := 67) dX12_named_67 rfl ?_
              refine r_dup (pc := 68) dX12_named_68 rfl ?_
              refine r_getf (pc := 69) (k := 11) dX12_named_69 hX12 eX12 (by decide) fX12_132 (fun _ q => mo hm q) rfl ?_
              rw [q.2.1]
              refine r_iconst (pc := 72) (v := 1) dX12_named_72 (by decide) ?_
              refine r_iadd (pc := 73) dX12_named_73 ?_
              rw [nI_1]
              refine r_mp (pc := 74) (k := 11) hm dX12_named_74 fX12_132 (by decide) rfl rfl (fun _ _ => rfl) (fun _ _ => rfl) rfl ?_
              refine r_iload_n (pc := 77) dX12_named_77 rfl ?_
              refine r_if_eq (pc := 78) 88 dX12_named_78 (by decide) (fun c78 => ?_) (fun c78 => ?_)
              · skip
                first
                | exact absurd c78 (by decide)
                | skip
                  refine r_iload_n (pc := 88) dX12_named_88 rfl ?_
                  refine r_if_eq (pc := 89) 99 dX12_named_89 (by decide) (fun c89 => ?_) (fun c89 => ?_)
                  · skip
                    first
                    | exact absurd c89 (by decide)
                    | skip
                      refine r_aload_n (pc := 99) dX12_named_99 rfl ?_
                      refine r_getf (pc := 100) (k := 16) dX12_named_100 hX12 eX12 (by decide) fX12_150 (fun _ q => mo hm q) rfl ?_
                      refine r_ireturn (pc := 103) (ty := .int) dX12_named_103 rfl rfl ⟨Nat.zero_le _, Nat.zero_le _⟩ (fun gE hg => ?_)
                      first
                      | exact fin _ 0 (hn.trans (if_pos c3)) (by decide) q.2.2.2.2.1.symm gE hg
                      | exact fin _ 1 (hn.trans ((if_neg c3).trans (if_pos c15))) (by decide) q.2.2.2.2.2.1.symm gE hg
                      | exact fin _ 2 (hn.trans ((if_neg c3).trans ((if_neg c15).trans (if_pos (c39.trans hU.symm))))) (by decide) q.2.2.2.2.2.2.1.symm gE hg
                  · skip
                    first
                    | exact absurd rfl c89
                    | skip
                      refine r_aload_n (pc := 92) dX12_named_92 rfl ?_
                      refine r_getf (pc := 93) (k := 15) dX12_named_93 hX12 eX12 (by decide) fX12_147 (fun _ q => mo hm q) rfl ?_
                      refine r_goto (pc := 96) 103 dX12_named_96 (by decide) ?_
                      refine r_ireturn (pc := 103) (ty := .int) dX12_named_103 rfl rfl ⟨Nat.zero_le _, Nat.zero_le _⟩ (fun gE hg => ?_)
                      first
                      | exact fin _ 0 (hn.trans (if_pos c3)) (by decide) q.2.2.2.2.1.symm gE hg
                      | exact fin _ 1 (hn.trans ((if_neg c3).trans (if_pos c15))) (by decide) q.2.2.2.2.2.1.symm gE hg
                      | exact fin _ 2 (hn.trans ((if_neg c3).trans ((if_neg c15).trans (if_pos (c39.trans hU.symm))))) (by decide) q.2.2.2.2.2.2.1.symm gE hg
              · skip
                first
                | exact absurd rfl c78
                | skip
                  refine r_aload_n (pc := 81) dX12_named_81 rfl ?_
                  refine r_getf (pc := 82) (k := 14) dX12_named_82 hX12 eX12 (by decide) fX12_144 (fun _ q => mo hm q) rfl ?_
                  refine r_goto (pc := 85) 103 dX12_named_85 (by decide) ?_
                  refine r_ireturn (pc := 103) (ty := .int) dX12_named_103 rfl rfl ⟨Nat.zero_le _, Nat.zero_le _⟩ (fun gE hg => ?_)
                  first
                  | exact fin _ 0 (hn.trans (if_pos c3)) (by decide) q.2.2.2.2.1.symm gE hg
                  | exact fin _ 1 (hn.trans ((if_neg c3).trans (if_pos c15))) (by decide) q.2.2.2.2.2.1.symm gE hg
                  | exact fin _ 2 (hn.trans ((if_neg c3).trans ((if_neg c15).trans (if_pos (c39.trans hU.symm))))) (by decide) q.2.2.2.2.2.2.1.symm gE hg
          · skip
            first
            | exact absurd c50 (by decide)
            | skip
              refine r_iload_n (pc := 53) dX12_named_53 rfl ?_
              refine r_if_ne (pc := 54) 67 dX12_named_54 (by decide) (fun c54 => ?_) (fun c54 => ?_)
              · skip
                first
                | exact absurd rfl c54
                | skip
                  refine r_aload_n (pc := 67) dX12_named_67 rfl ?_
                  refine r_dup (pc := 68) dX12_named_68 rfl ?_
                  refine r_getf (pc := 69) (k := 11) dX12_named_69 hX12 eX12 (by decide) fX12_132 (fun _ q => mo hm q) rfl ?_
                  rw [q.2.1]
                  refine r_iconst (pc := 72) (v := 1) dX12_named_72 (by decide) ?_
                  refine r_iadd (pc := 73) dX12_named_73 ?_
                  rw [nI_1]
                  refine r_mp (pc := 74) (k := 11) hm dX12_named_74 fX12_132 (by decide) rfl rfl (fun _ _ => rfl) (fun _ _ => rfl) rfl ?_
                  refine r_iload_n (pc := 77) dX12_named_77 rfl ?_
                  refine r_if_eq (pc := 78) 88 dX12_named_78 (by decide) (fun c78 => ?_) (fun c78 => ?_)
                  · skip
                    first
                    | exact absurd c78 (by decide)
                    | skip
                      refine r_iload_n (pc := 88) dX12_named_88 rfl ?_
                      refine r_if_eq (pc := 89) 99 dX12_named_89 (by decide) (fun c89 => ?_) (fun c89 => ?_)
                      · skip
                        first
                        | exact absurd c89 (by decide)
                        | skip
                          refine r_aload_n (pc := 99) dX12_named_99 rfl ?_
                          refine r_getf (pc := 100) (k := 16) dX12_named_100 hX12 eX12 (by decide) fX12_150 (fun _ q => mo hm q) rfl ?_
                          refine r_ireturn (pc := 103) (ty := .int) dX12_named_103 rfl rfl ⟨Nat.zero_le _, Nat.zero_le _⟩ (fun gE hg => ?_)
                          first
                          | exact fin _ 0 (hn.trans (if_pos c3)) (by decide) q.2.2.2.2.1.symm gE hg
                          | exact fin _ 1 (hn.trans ((if_neg c3).trans (if_pos c15))) (by decide) q.2.2.2.2.2.1.symm gE hg
                          | exact fin _ 2 (hn.trans ((if_neg c3).trans ((if_neg c15).trans (if_pos (c39.trans hU.symm))))) (by decide) q.2.2.2.2.2.2.1.symm gE hg
                      · skip
                        first
                        | exact absurd rfl c89
                        | skip
                          refine r_aload_n (pc := 92) dX12_named_92 rfl ?_
                          refine r_getf (pc := 93) (k := 15) dX12_named_93 hX12 eX12 (by decide) fX12_147 (fun _ q => mo hm q) rfl ?_
                          refine r_goto (pc := 96) 103 dX12_named_96 (by decide) ?_
                          refine r_ireturn (pc := 103) (ty := .int) dX12_named_103 rfl rfl ⟨Nat.zero_le _, Nat.zero_le _⟩ (fun gE hg => ?_)
                          first
                          | exact fin _ 0 (hn.trans (if_pos c3)) (by decide) q.2.2.2.2.1.symm gE hg
                          | exact fin _ 1 (hn.trans ((if_neg c3).trans (if_pos c15))) (by decide) q.2.2.2.2.2.1.symm gE hg
                          | exact fin _ 2 (hn.trans ((if_neg c3).trans ((if_neg c15).trans (if_pos (c39.trans hU.symm))))) (by decide) q.2.2.2.2.2.2.1.symm gE hg
                  · skip
                    first
                    | exact absurd rfl c78
                    | skip
                      refine r_aload_n (pc := 81) dX12_named_81 rfl ?_
                      refine r_getf (pc := 82) (k := 14) dX12_named_82 hX12 eX12 (by decide) fX12_144 (fun _ q => mo hm q) rfl ?_
                      refine r_goto (pc := 85) 103 dX12_named_85 (by decide) ?_
                      refine r_ireturn (pc := 103) (ty := .int) dX12_named_103 rfl rfl ⟨Nat.zero_le _, Nat.zero_le _⟩ (fun gE hg => ?_)
                      first
                      | exact fin _ 0 (hn.trans (if_pos c3)) (by decide) q.2.2.2.2.1.symm gE hg
                      | exact fin _ 1 (hn.trans ((if_neg c3).trans (if_pos c15))) (by decide) q.2.2.2.2.2.1.symm gE hg
                      | exact fin _ 2 (hn.trans ((if_neg c3).trans ((if_neg c15).trans (if_pos (c39.trans hU.symm))))) (by decide) q.2.2.2.2.2.2.1.symm gE hg
              · skip
                first
                | exact absurd c54 (by decide)
                | skip
                  refine r_iload (pc := 57) dX12_named_57 rfl ?_
                  refine r_if_ne (pc := 59) 67 dX12_named_59 (by decide) (fun c59 => ?_) (fun c59 => ?_)
                  · skip
                    first
                    | exact absurd rfl c59
                    | skip
                      refine r_aload_n (pc := 67) dX12_named_67 rfl ?_
                      refine r_dup (pc := 68) dX12_named_68 rfl ?_
                      refine r_getf (pc := 69) (k := 11) dX12_named_69 hX12 eX12 (by decide) fX12_132 (fun _ q => mo hm q) rfl ?_
                      rw [q.2.1]
                      refine r_iconst (pc := 72) (v := 1) dX12_named_72 (by decide) ?_
                      refine r_iadd (pc := 73) dX12_named_73 ?_
                      rw [nI_1]
                      refine r_mp (pc := 74) (k := 11) hm dX12_named_74 fX12_132 (by decide) rfl rfl (fun _ _ => rfl) (fun _ _ => rfl) rfl ?_
                      refine r_iload_n (pc := 77) dX12_named_77 rfl ?_
                      refine r_if_eq (pc := 78) 88 dX12_named_78 (by decide) (fun c78 => ?_) (fun c78 => ?_)
                      · skip
                        first
                        | exact absurd c78 (by decide)
                        | skip
                          refine r_iload_n (pc := 88) dX12_named_88 rfl ?_
                          refine r_if_eq (pc := 89) 99 dX12_named_89 (by decide) (fun c89 => ?_) (fun c89 => ?_)
                          · skip
                            first
                            | exact absurd c89 (by decide)
                            | skip
                              refine r_aload_n (pc := 99) dX12_named_99 rfl ?_
                              refine r_getf (pc := 100) (k := 16) dX12_named_100 hX12 eX12 (by decide) fX12_150 (fun _ q => mo hm q) rfl ?_
                              refine r_ireturn (pc := 103) (ty := .int) dX12_named_103 rfl rfl ⟨Nat.zero_le _, Nat.zero_le _⟩ (fun gE hg => ?_)
                              first
                              | exact fin _ 0 (hn.trans (if_pos c3)) (by decide) q.2.2.2.2.1.symm gE hg
                              | exact fin _ 1 (hn.trans ((if_neg c3).trans (if_pos c15))) (by decide) q.2.2.2.2.2.1.symm gE hg
                              | exact fin _ 2 (hn.trans ((if_neg c3).trans ((if_neg c15).trans (if_pos (c39.trans hU.symm))))) (by decide) q.2.2.2.2.2.2.1.symm gE hg
                          · skip
                            first
                            | exact absurd rfl c89
                            | skip
                              refine r_aload_n (pc := 92) dX12_named_92 rfl ?_
                              refine r_getf (pc := 93) (k := 15) dX12_named_93 hX12 eX12 (by decide) fX12_147 (fun _ q => mo hm q) rfl ?_
                              refine r_goto (pc := 96) 103 dX12_named_96 (by decide) ?_
                              refine r_ireturn (pc := 103) (ty := .int) dX12_named_103 rfl rfl ⟨Nat.zero_le _, Nat.zero_le _⟩ (fun gE hg => ?_)
                              first
                              | exact fin _ 0 (hn.trans (if_pos c3)) (by decide) q.2.2.2.2.1.symm gE hg
                              | exact fin _ 1 (hn.trans ((if_neg c3).trans (if_pos c15))) (by decide) q.2.2.2.2.2.1.symm gE hg
                              | exact fin _ 2 (hn.trans ((if_neg c3).trans ((if_neg c15).trans (if_pos (c39.trans hU.symm))))) (by decide) q.2.2.2.2.2.2.1.symm gE hg
                      · skip
                        first
                        | exact absurd rfl c78
                        | skip
                          refine r_aload_n (pc := 81) dX12_named_81 rfl ?_
                          refine r_getf (pc := 82) (k := 14) dX12_named_82 hX12 eX12 (by decide) fX12_144 (fun _ q => mo hm q) rfl ?_
                          refine r_goto (pc := 85) 103 dX12_named_85 (by decide) ?_
                          refine r_ireturn (pc := 103) (ty := .int) dX12_named_103 rfl rfl ⟨Nat.zero_le _, Nat.zero_le _⟩ (fun gE hg => ?_)
                          first
                          | exact fin _ 0 (hn.trans (if_pos c3)) (by decide) q.2.2.2.2.1.symm gE hg
                          | exact fin _ 1 (hn.trans ((if_neg c3).trans (if_pos c15))) (by decide) q.2.2.2.2.2.1.symm gE hg
                          | exact fin _ 2 (hn.trans ((if_neg c3).trans ((if_neg c15).trans (if_pos (c39.trans hU.symm))))) (by decide) q.2.2.2.2.2.2.1.symm gE hg
                  · skip
                    first
                    | exact absurd c59 (by decide)
                    | skip
                      refine r_aload_n (pc := 62) dX12_named_62 rfl ?_
                      refine r_Vi (pc := 63) (μ' := mX12_fails) dX12_named_63 nX12_141 iX12_fails vX12_fails kX12_fails rfl rfl (rr (by decide) rfl) rfl ⟨Nat.zero_le _, Nat.zero_le _⟩ (fun _ q_ => cvq q_ (ct_M_fails hm)) ?_
                      refine r_ireturn (pc := 66) (ty := .int) dX12_named_66 rfl rfl ⟨Nat.zero_le _, Nat.zero_le _⟩ (fun gE hg => ?_)
                      have e1 : nameI (nI u) c = -1 := hn.trans ((if_neg c3).trans ((if_neg c15).trans (if_neg (fun x => c39 (x.trans hU)))))
                      rw [e1, if_neg (by decide), if_neg (by decide), if_neg (by decide), if_neg (by decide)]
                      exact ⟨rfl, _, ⟨q.fl, (sFr.rf s).up (by omega)⟩, hg⟩
        · skip
          refine r_iconst (pc := 42) (v := 1) dX12_named_42 (by decide) ?_
          refine r_goto (pc := 43) 47 dX12_named_43 (by decide) ?_
          refine r_istore (pc := 47) dX12_named_47 (Nat.le_of_ble_eq_true rfl) rfl ?_
          dsimp only [lset]
          refine r_iload_n (pc := 49) dX12_named_49 rfl ?_
          refine r_if_ne (pc := 50) 67 dX12_named_50 (by decide) (fun c50 => ?_) (fun c50 => ?_)
          · skip
            first
            | exact absurd rfl c50
            | skip
              refine r_aload_n (pc := 67) dX12_named_67 rfl ?_
              refine r_dup (pc := 68) dX12_named_68 rfl ?_
              refine r_getf (pc := 69) (k := 11) dX12_named_69 hX12 eX12 (by decide) fX12_132 (fun _ q => mo hm q) rfl ?_
              rw [q.2.1]
              refine r_iconst (pc := 72) (v := 1) dX12_named_72 (by decide) ?_
              refine r_iadd (pc := 73) dX12_named_73 ?_
              rw [nI_1]
              refine r_mp (pc := 74) (k := 11) hm dX12_named_74 fX12_132 (by decide) rfl rfl (fun _ _ => rfl) (fun _ _ => rfl) rfl ?_
              refine r_iload_n (pc := 77) dX12_named_77 rfl ?_
              refine r_if_eq (pc := 78) 88 dX12_named_78 (by decide) (fun c78 => ?_) (fun c78 => ?_)
              · skip
                first
                | exact absurd c78 (by decide)
                | skip
                  refine r_iload_n (pc := 88) dX12_named_88 rfl ?_
                  refine r_if_eq (pc := 89) 99 dX12_named_89 (by decide) (fun c89 => ?_) (fun c89 => ?_)
                  · skip
                    first
                    | exact absurd c89 (by decide)
                    | skip
                      refine r_aload_n (pc := 99) dX12_named_99 rfl ?_
                      refine r_getf (pc := 100) (k := 16) dX12_named_100 hX12 eX12 (by decide) fX12_150 (fun _ q => mo hm q) rfl ?_
                      refine r_ireturn (pc := 103) (ty := .int) dX12_named_103 rfl rfl ⟨Nat.zero_le _, Nat.zero_le _⟩ (fun gE hg => ?_)
                      first
                      | exact fin _ 0 (hn.trans (if_pos c3)) (by decide) q.2.2.2.2.1.symm gE hg
                      | exact fin _ 1 (hn.trans ((if_neg c3).trans (if_pos c15))) (by decide) q.2.2.2.2.2.1.symm gE hg
                      | exact fin _ 2 (hn.trans ((if_neg c3).trans ((if_neg c15).trans (if_pos (c39.trans hU.symm))))) (by decide) q.2.2.2.2.2.2.1.symm gE hg
                  · skip
                    first
                    | exact absurd rfl c89
                    | skip
                      refine r_aload_n (pc := 92) dX12_named_92 rfl ?_
                      refine r_getf (pc := 93) (k := 15) dX12_named_93 hX12 eX12 (by decide) fX12_147 (fun _ q => mo hm q) rfl ?_
                      refine r_goto (pc := 96) 103 dX12_named_96 (by decide) ?_
                      refine r_ireturn (pc := 103) (ty := .int) dX12_named_103 rfl rfl ⟨Nat.zero_le _, Nat.zero_le _⟩ (fun gE hg => ?_)
                      first
                      | exact fin _ 0 (hn.trans (if_pos c3)) (by decide) q.2.2.2.2.1.symm gE hg
                      | exact fin _ 1 (hn.trans ((if_neg c3).trans (if_pos c15))) (by decide) q.2.2.2.2.2.1.symm gE hg
                      | exact fin _ 2 (hn.trans ((if_neg c3).trans ((if_neg c15).trans (if_pos (c39.trans hU.symm))))) (by decide) q.2.2.2.2.2.2.1.symm gE hg
              · skip
                first
                | exact absurd rfl c78
                | skip
                  refine r_aload_n (pc := 81) dX12_named_81 rfl ?_
                  refine r_getf (pc := 82) (k := 14) dX12_named_82 hX12 eX12 (by decide) fX12_144 (fun _ q => mo hm q) rfl ?_
                  refine r_goto (pc := 85) 103 dX12_named_85 (by decide) ?_
                  refine r_ireturn (pc := 103) (ty := .int) dX12_named_103 rfl rfl ⟨Nat.zero_le _, Nat.zero_le _⟩ (fun gE hg => ?_)
                  first
                  | exact fin _ 0 (hn.trans (if_pos c3)) (by decide) q.2.2.2.2.1.symm gE hg
                  | exact fin _ 1 (hn.trans ((if_neg c3).trans (if_pos c15))) (by decide) q.2.2.2.2.2.1.symm gE hg
                  | exact fin _ 2 (hn.trans ((if_neg c3).trans ((if_neg c15).trans (if_pos (c39.trans hU.symm))))) (by decide) q.2.2.2.2.2.2.1.symm gE hg
          · skip
            first
            | exact absurd c50 (by decide)
            | skip
              refine r_iload_n (pc := 53) dX12_named_53 rfl ?_
              refine r_if_ne (pc := 54) 67 dX12_named_54 (by decide) (fun c54 => ?_) (fun c54 => ?_)
              · skip
                first
                | exact absurd rfl c54
                | skip
                  refine r_aload_n (pc := 67) dX12_named_67 rfl ?_
                  refine r_dup (pc := 68) dX12_named_68 rfl ?_
                  refine r_getf (pc := 69) (k := 11) dX12_named_69 hX12 eX12 (by decide) fX12_132 (fun _ q => mo hm q) rfl ?_
                  rw [q.2.1]
                  refine r_iconst (pc := 72) (v := 1) dX12_named_72 (by decide) ?_
                  refine r_iadd (pc := 73) dX12_named_73 ?_
                  rw [nI_1]
                  refine r_mp (pc := 74) (k := 11) hm dX12_named_74 fX12_132 (by decide) rfl rfl (fun _ _ => rfl) (fun _ _ => rfl) rfl ?_
                  refine r_iload_n (pc := 77) dX12_named_77 rfl ?_
                  refine r_if_eq (pc := 78) 88 dX12_named_78 (by decide) (fun c78 => ?_) (fun c78 => ?_)
                  · skip
                    first
                    | exact absurd c78 (by decide)
                    | skip
                      refine r_iload_n (pc := 88) dX12_named_88 rfl ?_
                      refine r_if_eq (pc := 89) 99 dX12_named_89 (by decide) (fun c89 => ?_) (fun c89 => ?_)
                      · skip
                        first
                        | exact absurd c89 (by decide)
                        | skip
                          refine r_aload_n (pc := 99) dX12_named_99 rfl ?_
                          refine r_getf (pc := 100) (k := 16) dX12_named_100 hX12 eX12 (by decide) fX12_150 (fun _ q => mo hm q) rfl ?_
                          refine r_ireturn (pc := 103) (ty := .int) dX12_named_103 rfl rfl ⟨Nat.zero_le _, Nat.zero_le _⟩ (fun gE hg => ?_)
                          first
                          | exact fin _ 0 (hn.trans (if_pos c3)) (by decide) q.2.2.2.2.1.symm gE hg
                          | exact fin _ 1 (hn.trans ((if_neg c3).trans (if_pos c15))) (by decide) q.2.2.2.2.2.1.symm gE hg
                          | exact fin _ 2 (hn.trans ((if_neg c3).trans ((if_neg c15).trans (if_pos (c39.trans hU.symm))))) (by decide) q.2.2.2.2.2.2.1.symm gE hg
                      · skip
                        first
                        | exact absurd rfl c89
                        | skip
                          refine r_aload_n (pc := 92) dX12_named_92 rfl ?_
                          refine r_getf (pc := 93) (k := 15) dX12_named_93 hX12 eX12 (by decide) fX12_147 (fun _ q => mo hm q) rfl ?_
                          refine r_goto (pc := 96) 103 dX12_named_96 (by decide) ?_
                          refine r_ireturn (pc := 103) (ty := .int) dX12_named_103 rfl rfl ⟨Nat.zero_le _, Nat.zero_le _⟩ (fun gE hg => ?_)
                          first
                          | exact fin _ 0 (hn.trans (if_pos c3)) (by decide) q.2.2.2.2.1.symm gE hg
                          | exact fin _ 1 (hn.trans ((if_neg c3).trans (if_pos c15))) (by decide) q.2.2.2.2.2.1.symm gE hg
                          | exact fin _ 2 (hn.trans ((if_neg c3).trans ((if_neg c15).trans (if_pos (c39.trans hU.symm))))) (by decide) q.2.2.2.2.2.2.1.symm gE hg
                  · skip
                    first
                    | exact absurd rfl c78
                    | skip
                      refine r_aload_n (pc := 81) dX12_named_81 rfl ?_
                      refine r_getf (pc := 82) (k := 14) dX12_named_82 hX12 eX12 (by decide) fX12_144 (fun _ q => mo hm q) rfl ?_
                      refine r_goto (pc := 85) 103 dX12_named_85 (by decide) ?_
                      refine r_ireturn (pc := 103) (ty := .int) dX12_named_103 rfl rfl ⟨Nat.zero_le _, Nat.zero_le _⟩ (fun gE hg => ?_)
                      first
                      | exact fin _ 0 (hn.trans (if_pos c3)) (by decide) q.2.2.2.2.1.symm gE hg
                      | exact fin _ 1 (hn.trans ((if_neg c3).trans (if_pos c15))) (by decide) q.2.2.2.2.2.1.symm gE hg
                      | exact fin _ 2 (hn.trans ((if_neg c3).trans ((if_neg c15).trans (if_pos (c39.trans hU.symm))))) (by decide) q.2.2.2.2.2.2.1.symm gE hg
              · skip
                first
                | exact absurd c54 (by decide)
                | skip
                  refine r_iload (pc := 57) dX12_named_57 rfl ?_
                  refine r_if_ne (pc := 59) 67 dX12_named_59 (by decide) (fun c59 => ?_) (fun c59 => ?_)
                  · skip
                    first
                    | exact absurd rfl c59
                    | skip
                      refine r_aload_n (pc := 67) dX12_named_67 rfl ?_
                      refine r_dup (pc := 68) dX12_named_68 rfl ?_
                      refine r_getf (pc := 69) (k := 11) dX12_named_69 hX12 eX12 (by decide) fX12_132 (fun _ q => mo hm q) rfl ?_
                      rw [q.2.1]
                      refine r_iconst (pc := 72) (v := 1) dX12_named_72 (by decide) ?_
                      refine r_iadd (pc := 73) dX12_named_73 ?_
                      rw [nI_1]
                      refine r_mp (pc := 74) (k := 11) hm dX12_named_74 fX12_132 (by decide) rfl rfl (fun _ _ => rfl) (fun _ _ => rfl) rfl ?_
                      refine r_iload_n (pc := 77) dX12_named_77 rfl ?_
                      refine r_if_eq (pc := 78) 88 dX12_named_78 (by decide) (fun c78 => ?_) (fun c78 => ?_)
                      · skip
                        first
                        | exact absurd c78 (by decide)
                        | skip
                          refine r_iload_n (pc := 88) dX12_named_88 rfl ?_
                          refine r_if_eq (pc := 89) 99 dX12_named_89 (by decide) (fun c89 => ?_) (fun c89 => ?_)
                          · skip
                            first
                            | exact absurd c89 (by decide)
                            | skip
                              refine r_aload_n (pc := 99) dX12_named_99 rfl ?_
                              refine r_getf (pc := 100) (k := 16) dX12_named_100 hX12 eX12 (by decide) fX12_150 (fun _ q => mo hm q) rfl ?_
                              refine r_ireturn (pc := 103) (ty := .int) dX12_named_103 rfl rfl ⟨Nat.zero_le _, Nat.zero_le _⟩ (fun gE hg => ?_)
                              first
                              | exact fin _ 0 (hn.trans (if_pos c3)) (by decide) q.2.2.2.2.1.symm gE hg
                              | exact fin _ 1 (hn.trans ((if_neg c3).trans (if_pos c15))) (by decide) q.2.2.2.2.2.1.symm gE hg
                              | exact fin _ 2 (hn.trans ((if_neg c3).trans ((if_neg c15).trans (if_pos (c39.trans hU.symm))))) (by decide) q.2.2.2.2.2.2.1.symm gE hg
                          · skip
                            first
                            | exact absurd rfl c89
                            | skip
                              refine r_aload_n (pc := 92) dX12_named_92 rfl ?_
                              refine r_getf (pc := 93) (k := 15) dX12_named_93 hX12 eX12 (by decide) fX12_147 (fun _ q => mo hm q) rfl ?_
                              refine r_goto (pc := 96) 103 dX12_named_96 (by decide) ?_
                              refine r_ireturn (pc := 103) (ty := .int) dX12_named_103 rfl rfl ⟨Nat.zero_le _, Nat.zero_le _⟩ (fun gE hg => ?_)
                              first
                              | exact fin _ 0 (hn.trans (if_pos c3)) (by decide) q.2.2.2.2.1.symm gE hg
                              | exact fin _ 1 (hn.trans ((if_neg c3).trans (if_pos c15))) (by decide) q.2.2.2.2.2.1.symm gE hg
                              | exact fin _ 2 (hn.trans ((if_neg c3).trans ((if_neg c15).trans (if_pos (c39.trans hU.symm))))) (by decide) q.2.2.2.2.2.2.1.symm gE hg
                      · skip
                        first
                        | exact absurd rfl c78
                        | skip
                          refine r_aload_n (pc := 81) dX12_named_81 rfl ?_
                          refine r_getf (pc := 82) (k := 14) dX12_named_82 hX12 eX12 (by decide) fX12_144 (fun _ q => mo hm q) rfl ?_
                          refine r_goto (pc := 85) 103 dX12_named_85 (by decide) ?_
                          refine r_ireturn (pc := 103) (ty := .int) dX12_named_103 rfl rfl ⟨Nat.zero_le _, Nat.zero_le _⟩ (fun gE hg => ?_)
                          first
                          | exact fin _ 0 (hn.trans (if_pos c3)) (by decide) q.2.2.2.2.1.symm gE hg
                          | exact fin _ 1 (hn.trans ((if_neg c3).trans (if_pos c15))) (by decide) q.2.2.2.2.2.1.symm gE hg
                          | exact fin _ 2 (hn.trans ((if_neg c3).trans ((if_neg c15).trans (if_pos (c39.trans hU.symm))))) (by decide) q.2.2.2.2.2.2.1.symm gE hg
                  · skip
                    first
                    | exact absurd c59 (by decide)
                    | skip
                      refine r_aload_n (pc := 62) dX12_named_62 rfl ?_
                      refine r_Vi (pc := 63) (μ' := mX12_fails) dX12_named_63 nX12_141 iX12_fails vX12_fails kX12_fails rfl rfl (rr (by decide) rfl) rfl ⟨Nat.zero_le _, Nat.zero_le _⟩ (fun _ q_ => cvq q_ (ct_M_fails hm)) ?_
                      refine r_ireturn (pc := 66) (ty := .int) dX12_named_66 rfl rfl ⟨Nat.zero_le _, Nat.zero_le _⟩ (fun gE hg => ?_)
                      have e1 : nameI (nI u) c = -1 := hn.trans ((if_neg c3).trans ((if_neg c15).trans (if_neg (fun x => c39 (x.trans hU)))))
                      rw [e1, if_neg (by decide), if_neg (by decide), if_neg (by decide), if_neg (by decide)]
                      exact ⟨rfl, _, ⟨q.fl, (sFr.rf s).up (by omega)⟩, hg⟩
    · skip
      refine r_iconst (pc := 18) (v := 1) dX12_named_18 (by decide) ?_
      refine r_goto (pc := 19) 23 dX12_named_19 (by decide) ?_
      refine r_istore_n (pc := 23) dX12_named_23 rfl (Nat.le_of_ble_eq_true rfl) rfl ?_
      dsimp only [lset]
      refine r_iload_n (pc := 24) dX12_named_24 rfl ?_
      refine r_aload_n (pc := 25) dX12_named_25 rfl ?_
      refine r_getf (pc := 26) (k := 10) dX12_named_26 hX12 eX12 (by decide) fX12_126 (fun _ q => mo hm q) rfl ?_
      rw [q.1]
      refine r_if_ne (pc := 29) 37 dX12_named_29 (by decide) (fun c29 => ?_) (fun c29 => ?_)
      · skip
        have hU : (if nI u = 0 then (104 : Int32) else 119) = 119 := if_neg c29
        refine r_bipush (pc := 37) (v := 119) dX12_named_37 (by decide) ?_
        refine r_icmp_ne (pc := 39) 46 dX12_named_39 (by decide) (fun c39 => ?_) (fun c39 => ?_)
        · skip
          refine r_iconst (pc := 46) (v := 0) dX12_named_46 (by decide) ?_
          refine r_istore (pc := 47) dX12_named_47 (Nat.le_of_ble_eq_true rfl) rfl ?_
          dsimp only [lset]
          refine r_iload_n (pc := 49) dX12_named_49 rfl ?_
          refine r_if_ne (pc := 50) 67 dX12_named_50 (by decide) (fun c50 => ?_) (fun c50 => ?_)
          · skip
            first
            | exact absurd rfl c50
            | skip
              refine r_aload_n (pc := 67) dX12_named_67 rfl ?_
              refine r_dup (pc := 68) dX12_named_68 rfl ?_
              refine r_getf (pc := 69) (k := 11) dX12_named_69 hX12 eX12 (by decide) fX12_132 (fun _ q => mo hm q) rfl ?_
              rw [q.2.1]
              refine r_iconst (pc := 72) (v := 1) dX12_named_72 (by decide) ?_
              refine r_iadd (pc := 73) dX12_named_73 ?_
              rw [nI_1]
              refine r_mp (pc := 74) (k := 11) hm dX12_named_74 fX12_132 (by decide) rfl rfl (fun _ _ => rfl) (fun _ _ => rfl) rfl ?_
              refine r_iload_n (pc := 77) dX12_named_77 rfl ?_
              refine r_if_eq (pc := 78) 88 dX12_named_78 (by decide) (fun c78 => ?_) (fun c78 => ?_)
              · skip
                first
                | exact absurd c78 (by decide)
                | skip
                  refine r_iload_n (pc := 88) dX12_named_88 rfl ?_
                  refine r_if_eq (pc := 89) 99 dX12_named_89 (by decide) (fun c89 => ?_) (fun c89 => ?_)
                  · skip
                    first
                    | exact absurd c89 (by decide)
                    | skip
                      refine r_aload_n (pc := 99) dX12_named_99 rfl ?_
                      refine r_getf (pc := 100) (k := 16) dX12_named_100 hX12 eX12 (by decide) fX12_150 (fun _ q => mo hm q) rfl ?_
                      refine r_ireturn (pc := 103) (ty := .int) dX12_named_103 rfl rfl ⟨Nat.zero_le _, Nat.zero_le _⟩ (fun gE hg => ?_)
                      first
                      | exact fin _ 0 (hn.trans (if_pos c3)) (by decide) q.2.2.2.2.1.symm gE hg
                      | exact fin _ 1 (hn.trans ((if_neg c3).trans (if_pos c15))) (by decide) q.2.2.2.2.2.1.symm gE hg
                      | exact fin _ 2 (hn.trans ((if_neg c3).trans ((if_neg c15).trans (if_pos (c39.trans hU.symm))))) (by decide) q.2.2.2.2.2.2.1.symm gE hg
                  · skip
                    first
                    | exact absurd rfl c89
                    | skip
                      refine r_aload_n (pc := 92) dX12_named_92 rfl ?_
                      refine r_getf (pc := 93) (k := 15) dX12_named_93 hX12 eX12 (by decide) fX12_147 (fun _ q => mo hm q) rfl ?_
                      refine r_goto (pc := 96) 103 dX12_named_96 (by decide) ?_
                      refine r_ireturn (pc := 103) (ty := .int) dX12_named_103 rfl rfl ⟨Nat.zero_le _, Nat.zero_le _⟩ (fun gE hg => ?_)
                      first
                      | exact fin _ 0 (hn.trans (if_pos c3)) (by decide) q.2.2.2.2.1.symm gE hg
                      | exact fin _ 1 (hn.trans ((if_neg c3).trans (if_pos c15))) (by decide) q.2.2.2.2.2.1.symm gE hg
                      | exact fin _ 2 (hn.trans ((if_neg c3).trans ((if_neg c15).trans (if_pos (c39.trans hU.symm))))) (by decide) q.2.2.2.2.2.2.1.symm gE hg
              · skip
                first
                | exact absurd rfl c78
                | skip
                  refine r_aload_n (pc := 81) dX12_named_81 rfl ?_
                  refine r_getf (pc := 82) (k := 14) dX12_named_82 hX12 eX12 (by decide) fX12_144 (fun _ q => mo hm q) rfl ?_
                  refine r_goto (pc := 85) 103 dX12_named_85 (by decide) ?_
                  refine r_ireturn (pc := 103) (ty := .int) dX12_named_103 rfl rfl ⟨Nat.zero_le _, Nat.zero_le _⟩ (fun gE hg => ?_)
                  first
                  | exact fin _ 0 (hn.trans (if_pos c3)) (by decide) q.2.2.2.2.1.symm gE hg
                  | exact fin _ 1 (hn.trans ((if_neg c3).trans (if_pos c15))) (by decide) q.2.2.2.2.2.1.symm gE hg
                  | exact fin _ 2 (hn.trans ((if_neg c3).trans ((if_neg c15).trans (if_pos (c39.trans hU.symm))))) (by decide) q.2.2.2.2.2.2.1.symm gE hg
          · skip
            first
            | exact absurd c50 (by decide)
            | skip
              refine r_iload_n (pc := 53) dX12_named_53 rfl ?_
              refine r_if_ne (pc := 54) 67 dX12_named_54 (by decide) (fun c54 => ?_) (fun c54 => ?_)
              · skip
                first
                | exact absurd rfl c54
                | skip
                  refine r_aload_n (pc := 67) dX12_named_67 rfl ?_
                  refine r_dup (pc := 68) dX12_named_68 rfl ?_
                  refine r_getf (pc := 69) (k := 11) dX12_named_69 hX12 eX12 (by decide) fX12_132 (fun _ q => mo hm q) rfl ?_
                  rw [q.2.1]
                  refine r_iconst (pc := 72) (v := 1) dX12_named_72 (by decide) ?_
                  refine r_iadd (pc := 73) dX12_named_73 ?_
                  rw [nI_1]
                  refine r_mp (pc := 74) (k := 11) hm dX12_named_74 fX12_132 (by decide) rfl rfl (fun _ _ => rfl) (fun _ _ => rfl) rfl ?_
                  refine r_iload_n (pc := 77) dX12_named_77 rfl ?_
                  refine r_if_eq (pc := 78) 88 dX12_named_78 (by decide) (fun c78 => ?_) (fun c78 => ?_)
                  · skip
                    first
                    | exact absurd c78 (by decide)
                    | skip
                      refine r_iload_n (pc := 88) dX12_named_88 rfl ?_
                      refine r_if_eq (pc := 89) 99 dX12_named_89 (by decide) (fun c89 => ?_) (fun c89 => ?_)
                      · skip
                        first
                        | exact absurd c89 (by decide)
                        | skip
                          refine r_aload_n (pc := 99) dX12_named_99 rfl ?_
                          refine r_getf (pc := 100) (k := 16) dX12_named_100 hX12 eX12 (by decide) fX12_150 (fun _ q => mo hm q) rfl ?_
                          refine r_ireturn (pc := 103) (ty := .int) dX12_named_103 rfl rfl ⟨Nat.zero_le _, Nat.zero_le _⟩ (fun gE hg => ?_)
                          first
                          | exact fin _ 0 (hn.trans (if_pos c3)) (by decide) q.2.2.2.2.1.symm gE hg
                          | exact fin _ 1 (hn.trans ((if_neg c3).trans (if_pos c15))) (by decide) q.2.2.2.2.2.1.symm gE hg
                          | exact fin _ 2 (hn.trans ((if_neg c3).trans ((if_neg c15).trans (if_pos (c39.trans hU.symm))))) (by decide) q.2.2.2.2.2.2.1.symm gE hg
                      · skip
                        first
                        | exact absurd rfl c89
                        | skip
                          refine r_aload_n (pc := 92) dX12_named_92 rfl ?_
                          refine r_getf (pc := 93) (k := 15) dX12_named_93 hX12 eX12 (by decide) fX12_147 (fun _ q => mo hm q) rfl ?_
                          refine r_goto (pc := 96) 103 dX12_named_96 (by decide) ?_
                          refine r_ireturn (pc := 103) (ty := .int) dX12_named_103 rfl rfl ⟨Nat.zero_le _, Nat.zero_le _⟩ (fun gE hg => ?_)
                          first
                          | exact fin _ 0 (hn.trans (if_pos c3)) (by decide) q.2.2.2.2.1.symm gE hg
                          | exact fin _ 1 (hn.trans ((if_neg c3).trans (if_pos c15))) (by decide) q.2.2.2.2.2.1.symm gE hg
                          | exact fin _ 2 (hn.trans ((if_neg c3).trans ((if_neg c15).trans (if_pos (c39.trans hU.symm))))) (by decide) q.2.2.2.2.2.2.1.symm gE hg
                  · skip
                    first
                    | exact absurd rfl c78
                    | skip
                      refine r_aload_n (pc := 81) dX12_named_81 rfl ?_
                      refine r_getf (pc := 82) (k := 14) dX12_named_82 hX12 eX12 (by decide) fX12_144 (fun _ q => mo hm q) rfl ?_
                      refine r_goto (pc := 85) 103 dX12_named_85 (by decide) ?_
                      refine r_ireturn (pc := 103) (ty := .int) dX12_named_103 rfl rfl ⟨Nat.zero_le _, Nat.zero_le _⟩ (fun gE hg => ?_)
                      first
                      | exact fin _ 0 (hn.trans (if_pos c3)) (by decide) q.2.2.2.2.1.symm gE hg
                      | exact fin _ 1 (hn.trans ((if_neg c3).trans (if_pos c15))) (by decide) q.2.2.2.2.2.1.symm gE hg
                      | exact fin _ 2 (hn.trans ((if_neg c3).trans ((if_neg c15).trans (if_pos (c39.trans hU.symm))))) (by decide) q.2.2.2.2.2.2.1.symm gE hg
              · skip
                first
                | exact absurd c54 (by decide)
                | skip
                  refine r_iload (pc := 57) dX12_named_57 rfl ?_
                  refine r_if_ne (pc := 59) 67 dX12_named_59 (by decide) (fun c59 => ?_) (fun c59 => ?_)
                  · skip
                    first
                    | exact absurd rfl c59
                    | skip
                      refine r_aload_n (pc := 67) dX12_named_67 rfl ?_
                      refine r_dup (pc := 68) dX12_named_68 rfl ?_
                      refine r_getf (pc := 69) (k := 11) dX12_named_69 hX12 eX12 (by decide) fX12_132 (fun _ q => mo hm q) rfl ?_
                      rw [q.2.1]
                      refine r_iconst (pc := 72) (v := 1) dX12_named_72 (by decide) ?_
                      refine r_iadd (pc := 73) dX12_named_73 ?_
                      rw [nI_1]
                      refine r_mp (pc := 74) (k := 11) hm dX12_named_74 fX12_132 (by decide) rfl rfl (fun _ _ => rfl) (fun _ _ => rfl) rfl ?_
                      refine r_iload_n (pc := 77) dX12_named_77 rfl ?_
                      refine r_if_eq (pc := 78) 88 dX12_named_78 (by decide) (fun c78 => ?_) (fun c78 => ?_)
                      · skip
                        first
                        | exact absurd c78 (by decide)
                        | skip
                          refine r_iload_n (pc := 88) dX12_named_88 rfl ?_
                          refine r_if_eq (pc := 89) 99 dX12_named_89 (by decide) (fun c89 => ?_) (fun c89 => ?_)
                          · skip
                            first
                            | exact absurd c89 (by decide)
                            | skip
                              refine r_aload_n (pc := 99) dX12_named_99 rfl ?_
                              refine r_getf (pc := 100) (k := 16) dX12_named_100 hX12 eX12 (by decide) fX12_150 (fun _ q => mo hm q) rfl ?_
                              refine r_ireturn (pc := 103) (ty := .int) dX12_named_103 rfl rfl ⟨Nat.zero_le _, Nat.zero_le _⟩ (fun gE hg => ?_)
                              first
                              | exact fin _ 0 (hn.trans (if_pos c3)) (by decide) q.2.2.2.2.1.symm gE hg
                              | exact fin _ 1 (hn.trans ((if_neg c3).trans (if_pos c15))) (by decide) q.2.2.2.2.2.1.symm gE hg
                              | exact fin _ 2 (hn.trans ((if_neg c3).trans ((if_neg c15).trans (if_pos (c39.trans hU.symm))))) (by decide) q.2.2.2.2.2.2.1.symm gE hg
                          · skip
                            first
                            | exact absurd rfl c89
                            | skip
                              refine r_aload_n (pc := 92) dX12_named_92 rfl ?_
                              refine r_getf (pc := 93) (k := 15) dX12_named_93 hX12 eX12 (by decide) fX12_147 (fun _ q => mo hm q) rfl ?_
                              refine r_goto (pc := 96) 103 dX12_named_96 (by decide) ?_
                              refine r_ireturn (pc := 103) (ty := .int) dX12_named_103 rfl rfl ⟨Nat.zero_le _, Nat.zero_le _⟩ (fun gE hg => ?_)
                              first
                              | exact fin _ 0 (hn.trans (if_pos c3)) (by decide) q.2.2.2.2.1.symm gE hg
                              | exact fin _ 1 (hn.trans ((if_neg c3).trans (if_pos c15))) (by decide) q.2.2.2.2.2.1.symm gE hg
                              | exact fin _ 2 (hn.trans ((if_neg c3).trans ((if_neg c15).trans (if_pos (c39.trans hU.symm))))) (by decide) q.2.2.2.2.2.2.1.symm gE hg
                      · skip
                        first
                        | exact absurd rfl c78
                        | skip
                          refine r_aload_n (pc := 81) dX12_named_81 rfl ?_
                          refine r_getf (pc := 82) (k := 14) dX12_named_82 hX12 eX12 (by decide) fX12_144 (fun _ q => mo hm q) rfl ?_
                          refine r_goto (pc := 85) 103 dX12_named_85 (by decide) ?_
                          refine r_ireturn (pc := 103) (ty := .int) dX12_named_103 rfl rfl ⟨Nat.zero_le _, Nat.zero_le _⟩ (fun gE hg => ?_)
                          first
                          | exact fin _ 0 (hn.trans (if_pos c3)) (by decide) q.2.2.2.2.1.symm gE hg
                          | exact fin _ 1 (hn.trans ((if_neg c3).trans (if_pos c15))) (by decide) q.2.2.2.2.2.1.symm gE hg
                          | exact fin _ 2 (hn.trans ((if_neg c3).trans ((if_neg c15).trans (if_pos (c39.trans hU.symm))))) (by decide) q.2.2.2.2.2.2.1.symm gE hg
                  · skip
                    first
                    | exact absurd c59 (by decide)
                    | skip
                      refine r_aload_n (pc := 62) dX12_named_62 rfl ?_
                      refine r_Vi (pc := 63) (μ' := mX12_fails) dX12_named_63 nX12_141 iX12_fails vX12_fails kX12_fails rfl rfl (rr (by decide) rfl) rfl ⟨Nat.zero_le _, Nat.zero_le _⟩ (fun _ q_ => cvq q_ (ct_M_fails hm)) ?_
                      refine r_ireturn (pc := 66) (ty := .int) dX12_named_66 rfl rfl ⟨Nat.zero_le _, Nat.zero_le _⟩ (fun gE hg => ?_)
                      have e1 : nameI (nI u) c = -1 := hn.trans ((if_neg c3).trans ((if_neg c15).trans (if_neg (fun x => c39 (x.trans hU)))))
                      rw [e1, if_neg (by decide), if_neg (by decide), if_neg (by decide), if_neg (by decide)]
                      exact ⟨rfl, _, ⟨q.fl, (sFr.rf s).up (by omega)⟩, hg⟩
        · skip
          refine r_iconst (pc := 42) (v := 1) dX12_named_42 (by decide) ?_
          refine r_goto (pc := 43) 47 dX12_named_43 (by decide) ?_
          refine r_istore (pc := 47) dX12_named_47 (Nat.le_of_ble_eq_true rfl) rfl ?_
          dsimp only [lset]
          refine r_iload_n (pc := 49) dX12_named_49 rfl ?_
          refine r_if_ne (pc := 50) 67 dX12_named_50 (by decide) (fun c50 => ?_) (fun c50 => ?_)
          · skip
            first
            | exact absurd rfl c50
            | skip
              refine r_aload_n (pc := 67) dX12_named_67 rfl ?_
              refine r_dup (pc := 68) dX12_named_68 rfl ?_
              refine r_getf (pc := 69) (k := 11) dX12_named_69 hX12 eX12 (by decide) fX12_132 (fun _ q => mo hm q) rfl ?_
              rw [q.2.1]
              refine r_iconst (pc := 72) (v := 1) dX12_named_72 (by decide) ?_
              refine r_iadd (pc := 73) dX12_named_73 ?_
              rw [nI_1]
              refine r_mp (pc := 74) (k := 11) hm dX12_named_74 fX12_132 (by decide) rfl rfl (fun _ _ => rfl) (fun _ _ => rfl) rfl ?_
              refine r_iload_n (pc := 77) dX12_named_77 rfl ?_
              refine r_if_eq (pc := 78) 88 dX12_named_78 (by decide) (fun c78 => ?_) (fun c78 => ?_)
              · skip
                first
                | exact absurd c78 (by decide)
                | skip
                  refine r_iload_n (pc := 88) dX12_named_88 rfl ?_
                  refine r_if_eq (pc := 89) 99 dX12_named_89 (by decide) (fun c89 => ?_) (fun c89 => ?_)
                  · skip
                    first
                    | exact absurd c89 (by decide)
                    | skip
                      refine r_aload_n (pc := 99) dX12_named_99 rfl ?_
                      refine r_getf (pc := 100) (k := 16) dX12_named_100 hX12 eX12 (by decide) fX12_150 (fun _ q => mo hm q) rfl ?_
                      refine r_ireturn (pc := 103) (ty := .int) dX12_named_103 rfl rfl ⟨Nat.zero_le _, Nat.zero_le _⟩ (fun gE hg => ?_)
                      first
                      | exact fin _ 0 (hn.trans (if_pos c3)) (by decide) q.2.2.2.2.1.symm gE hg
                      | exact fin _ 1 (hn.trans ((if_neg c3).trans (if_pos c15))) (by decide) q.2.2.2.2.2.1.symm gE hg
                      | exact fin _ 2 (hn.trans ((if_neg c3).trans ((if_neg c15).trans (if_pos (c39.trans hU.symm))))) (by decide) q.2.2.2.2.2.2.1.symm gE hg
                  · skip
                    first
                    | exact absurd rfl c89
                    | skip
                      refine r_aload_n (pc := 92) dX12_named_92 rfl ?_
                      refine r_getf (pc := 93) (k := 15) dX12_named_93 hX12 eX12 (by decide) fX12_147 (fun _ q => mo hm q) rfl ?_
                      refine r_goto (pc := 96) 103 dX12_named_96 (by decide) ?_
                      refine r_ireturn (pc := 103) (ty := .int) dX12_named_103 rfl rfl ⟨Nat.zero_le _, Nat.zero_le _⟩ (fun gE hg => ?_)
                      first
                      | exact fin _ 0 (hn.trans (if_pos c3)) (by decide) q.2.2.2.2.1.symm gE hg
                      | exact fin _ 1 (hn.trans ((if_neg c3).trans (if_pos c15))) (by decide) q.2.2.2.2.2.1.symm gE hg
                      | exact fin _ 2 (hn.trans ((if_neg c3).trans ((if_neg c15).trans (if_pos (c39.trans hU.symm))))) (by decide) q.2.2.2.2.2.2.1.symm gE hg
              · skip
                first
                | exact absurd rfl c78
                | skip
                  refine r_aload_n (pc := 81) dX12_named_81 rfl ?_
                  refine r_getf (pc := 82) (k := 14) dX12_named_82 hX12 eX12 (by decide) fX12_144 (fun _ q => mo hm q) rfl ?_
                  refine r_goto (pc := 85) 103 dX12_named_85 (by decide) ?_
                  refine r_ireturn (pc := 103) (ty := .int) dX12_named_103 rfl rfl ⟨Nat.zero_le _, Nat.zero_le _⟩ (fun gE hg => ?_)
                  first
                  | exact fin _ 0 (hn.trans (if_pos c3)) (by decide) q.2.2.2.2.1.symm gE hg
                  | exact fin _ 1 (hn.trans ((if_neg c3).trans (if_pos c15))) (by decide) q.2.2.2.2.2.1.symm gE hg
                  | exact fin _ 2 (hn.trans ((if_neg c3).trans ((if_neg c15).trans (if_pos (c39.trans hU.symm))))) (by decide) q.2.2.2.2.2.2.1.symm gE hg
          · skip
            first
            | exact absurd c50 (by decide)
            | skip
              refine r_iload_n (pc := 53) dX12_named_53 rfl ?_
              refine r_if_ne (pc := 54) 67 dX12_named_54 (by decide) (fun c54 => ?_) (fun c54 => ?_)
              · skip
                first
                | exact absurd rfl c54
                | skip
                  refine r_aload_n (pc := 67) dX12_named_67 rfl ?_
                  refine r_dup (pc := 68) dX12_named_68 rfl ?_
                  refine r_getf (pc := 69) (k := 11) dX12_named_69 hX12 eX12 (by decide) fX12_132 (fun _ q => mo hm q) rfl ?_
                  rw [q.2.1]
                  refine r_iconst (pc := 72) (v := 1) dX12_named_72 (by decide) ?_
                  refine r_iadd (pc := 73) dX12_named_73 ?_
                  rw [nI_1]
                  refine r_mp (pc := 74) (k := 11) hm dX12_named_74 fX12_132 (by decide) rfl rfl (fun _ _ => rfl) (fun _ _ => rfl) rfl ?_
                  refine r_iload_n (pc := 77) dX12_named_77 rfl ?_
                  refine r_if_eq (pc := 78) 88 dX12_named_78 (by decide) (fun c78 => ?_) (fun c78 => ?_)
                  · skip
                    first
                    | exact absurd c78 (by decide)
                    | skip
                      refine r_iload_n (pc := 88) dX12_named_88 rfl ?_
                      refine r_if_eq (pc := 89) 99 dX12_named_89 (by decide) (fun c89 => ?_) (fun c89 => ?_)
                      · skip
                        first
                        | exact absurd c89 (by decide)
                        | skip
                          refine r_aload_n (pc := 99) dX12_named_99 rfl ?_
                          refine r_getf (pc := 100) (k := 16) dX12_named_100 hX12 eX12 (by decide) fX12_150 (fun _ q => mo hm q) rfl ?_
                          refine r_ireturn (pc := 103) (ty := .int) dX12_named_103 rfl rfl ⟨Nat.zero_le _, Nat.zero_le _⟩ (fun gE hg => ?_)
                          first
                          | exact fin _ 0 (hn.trans (if_pos c3)) (by decide) q.2.2.2.2.1.symm gE hg
                          | exact fin _ 1 (hn.trans ((if_neg c3).trans (if_pos c15))) (by decide) q.2.2.2.2.2.1.symm gE hg
                          | exact fin _ 2 (hn.trans ((if_neg c3).trans ((if_neg c15).trans (if_pos (c39.trans hU.symm))))) (by decide) q.2.2.2.2.2.2.1.symm gE hg
                      · skip
                        first
                        | exact absurd rfl c89
                        | skip
                          refine r_aload_n (pc := 92) dX12_named_92 rfl ?_
                          refine r_getf (pc := 93) (k := 15) dX12_named_93 hX12 eX12 (by decide) fX12_147 (fun _ q => mo hm q) rfl ?_
                          refine r_goto (pc := 96) 103 dX12_named_96 (by decide) ?_
                          refine r_ireturn (pc := 103) (ty := .int) dX12_named_103 rfl rfl ⟨Nat.zero_le _, Nat.zero_le _⟩ (fun gE hg => ?_)
                          first
                          | exact fin _ 0 (hn.trans (if_pos c3)) (by decide) q.2.2.2.2.1.symm gE hg
                          | exact fin _ 1 (hn.trans ((if_neg c3).trans (if_pos c15))) (by decide) q.2.2.2.2.2.1.symm gE hg
                          | exact fin _ 2 (hn.trans ((if_neg c3).trans ((if_neg c15).trans (if_pos (c39.trans hU.symm))))) (by decide) q.2.2.2.2.2.2.1.symm gE hg
                  · skip
                    first
                    | exact absurd rfl c78
                    | skip
                      refine r_aload_n (pc := 81) dX12_named_81 rfl ?_
                      refine r_getf (pc := 82) (k := 14) dX12_named_82 hX12 eX12 (by decide) fX12_144 (fun _ q => mo hm q) rfl ?_
                      refine r_goto (pc := 85) 103 dX12_named_85 (by decide) ?_
                      refine r_ireturn (pc := 103) (ty := .int) dX12_named_103 rfl rfl ⟨Nat.zero_le _, Nat.zero_le _⟩ (fun gE hg => ?_)
                      first
                      | exact fin _ 0 (hn.trans (if_pos c3)) (by decide) q.2.2.2.2.1.symm gE hg
                      | exact fin _ 1 (hn.trans ((if_neg c3).trans (if_pos c15))) (by decide) q.2.2.2.2.2.1.symm gE hg
                      | exact fin _ 2 (hn.trans ((if_neg c3).trans ((if_neg c15).trans (if_pos (c39.trans hU.symm))))) (by decide) q.2.2.2.2.2.2.1.symm gE hg
              · skip
                first
                | exact absurd c54 (by decide)
                | skip
                  refine r_iload (pc := 57) dX12_named_57 rfl ?_
                  refine r_if_ne (pc := 59) 67 dX12_named_59 (by decide) (fun c59 => ?_) (fun c59 => ?_)
                  · skip
                    first
                    | exact absurd rfl c59
                    | skip
                      refine r_aload_n (pc := 67) dX12_named_67 rfl ?_
                      refine r_dup (pc := 68) dX12_named_68 rfl ?_
                      refine r_getf (pc := 69) (k := 11) dX12_named_69 hX12 eX12 (by decide) fX12_132 (fun _ q => mo hm q) rfl ?_
                      rw [q.2.1]
                      refine r_iconst (pc := 72) (v := 1) dX12_named_72 (by decide) ?_
                      refine r_iadd (pc := 73) dX12_named_73 ?_
                      rw [nI_1]
                      refine r_mp (pc := 74) (k := 11) hm dX12_named_74 fX12_132 (by decide) rfl rfl (fun _ _ => rfl) (fun _ _ => rfl) rfl ?_
                      refine r_iload_n (pc := 77) dX12_named_77 rfl ?_
                      refine r_if_eq (pc := 78) 88 dX12_named_78 (by decide) (fun c78 => ?_) (fun c78 => ?_)
                      · skip
                        first
                        | exact absurd c78 (by decide)
                        | skip
                          refine r_iload_n (pc := 88) dX12_named_88 rfl ?_
                          refine r_if_eq (pc := 89) 99 dX12_named_89 (by decide) (fun c89 => ?_) (fun c89 => ?_)
                          · skip
                            first
                            | exact absurd c89 (by decide)
                            | skip
                              refine r_aload_n (pc := 99) dX12_named_99 rfl ?_
                              refine r_getf (pc := 100) (k := 16) dX12_named_100 hX12 eX12 (by decide) fX12_150 (fun _ q => mo hm q) rfl ?_
                              refine r_ireturn (pc := 103) (ty := .int) dX12_named_103 rfl rfl ⟨Nat.zero_le _, Nat.zero_le _⟩ (fun gE hg => ?_)
                              first
                              | exact fin _ 0 (hn.trans (if_pos c3)) (by decide) q.2.2.2.2.1.symm gE hg
                              | exact fin _ 1 (hn.trans ((if_neg c3).trans (if_pos c15))) (by decide) q.2.2.2.2.2.1.symm gE hg
                              | exact fin _ 2 (hn.trans ((if_neg c3).trans ((if_neg c15).trans (if_pos (c39.trans hU.symm))))) (by decide) q.2.2.2.2.2.2.1.symm gE hg
                          · skip
                            first
                            | exact absurd rfl c89
                            | skip
                              refine r_aload_n (pc := 92) dX12_named_92 rfl ?_
                              refine r_getf (pc := 93) (k := 15) dX12_named_93 hX12 eX12 (by decide) fX12_147 (fun _ q => mo hm q) rfl ?_
                              refine r_goto (pc := 96) 103 dX12_named_96 (by decide) ?_
                              refine r_ireturn (pc := 103) (ty := .int) dX12_named_103 rfl rfl ⟨Nat.zero_le _, Nat.zero_le _⟩ (fun gE hg => ?_)
                              first
                              | exact fin _ 0 (hn.trans (if_pos c3)) (by decide) q.2.2.2.2.1.symm gE hg
                              | exact fin _ 1 (hn.trans ((if_neg c3).trans (if_pos c15))) (by decide) q.2.2.2.2.2.1.symm gE hg
                              | exact fin _ 2 (hn.trans ((if_neg c3).trans ((if_neg c15).trans (if_pos (c39.trans hU.symm))))) (by decide) q.2.2.2.2.2.2.1.symm gE hg
                      · skip
                        first
                        | exact absurd rfl c78
                        | skip
                          refine r_aload_n (pc := 81) dX12_named_81 rfl ?_
                          refine r_getf (pc := 82) (k := 14) dX12_named_82 hX12 eX12 (by decide) fX12_144 (fun _ q => mo hm q) rfl ?_
                          refine r_goto (pc := 85) 103 dX12_named_85 (by decide) ?_
                          refine r_ireturn (pc := 103) (ty := .int) dX12_named_103 rfl rfl ⟨Nat.zero_le _, Nat.zero_le _⟩ (fun gE hg => ?_)
                          first
                          | exact fin _ 0 (hn.trans (if_pos c3)) (by decide) q.2.2.2.2.1.symm gE hg
                          | exact fin _ 1 (hn.trans ((if_neg c3).trans (if_pos c15))) (by decide) q.2.2.2.2.2.1.symm gE hg
                          | exact fin _ 2 (hn.trans ((if_neg c3).trans ((if_neg c15).trans (if_pos (c39.trans hU.symm))))) (by decide) q.2.2.2.2.2.2.1.symm gE hg
                  · skip
                    first
                    | exact absurd c59 (by decide)
                    | skip
                      refine r_aload_n (pc := 62) dX12_named_62 rfl ?_
                      refine r_Vi (pc := 63) (μ' := mX12_fails) dX12_named_63 nX12_141 iX12_fails vX12_fails kX12_fails rfl rfl (rr (by decide) rfl) rfl ⟨Nat.zero_le _, Nat.zero_le _⟩ (fun _ q_ => cvq q_ (ct_M_fails hm)) ?_
                      refine r_ireturn (pc := 66) (ty := .int) dX12_named_66 rfl rfl ⟨Nat.zero_le _, Nat.zero_le _⟩ (fun gE hg => ?_)
                      have e1 : nameI (nI u) c = -1 := hn.trans ((if_neg c3).trans ((if_neg c15).trans (if_neg (fun x => c39 (x.trans hU)))))
                      rw [e1, if_neg (by decide), if_neg (by decide), if_neg (by decide), if_neg (by decide)]
                      exact ⟨rfl, _, ⟨q.fl, (sFr.rf s).up (by omega)⟩, hg⟩
      · skip
        have hU : (if nI u = 0 then (104 : Int32) else 119) = 104 := if_pos c29
        refine r_bipush (pc := 32) (v := 104) dX12_named_32 (by decide) ?_
        refine r_goto (pc := 34) 39 dX12_named_34 (by decide) ?_
        refine r_icmp_ne (pc := 39) 46 dX12_named_39 (by decide) (fun c39 => ?_) (fun c39 => ?_)
        · skip
          refine r_iconst (pc := 46) (v := 0) dX12_named_46 (by decide) ?_
          refine r_istore (pc := 47) dX12_named_47 (Nat.le_of_ble_eq_true rfl) rfl ?_
          dsimp only [lset]
          refine r_iload_n (pc := 49) dX12_named_49 rfl ?_
          refine r_if_ne (pc := 50) 67 dX12_named_50 (by decide) (fun c50 => ?_) (fun c50 => ?_)
          · skip
            first
            | exact absurd rfl c50
            | skip
              refine r_aload_n (pc := 67) dX12_named_67 rfl ?_
              refine r_dup (pc := 68) dX12_named_68 rfl ?_
              refine r_getf (pc := 69) (k := 11) dX12_named_69 hX12 eX12 (by decide) fX12_132 (fun _ q => mo hm q) rfl ?_
              rw [q.2.1]
              refine r_iconst (pc := 72) (v := 1) dX12_named_72 (by decide) ?_
              refine r_iadd (pc := 73) dX12_named_73 ?_
              rw [nI_1]
              refine r_mp (pc := 74) (k := 11) hm dX12_named_74 fX12_132 (by decide) rfl rfl (fun _ _ => rfl) (fun _ _ => rfl) rfl ?_
              refine r_iload_n (pc := 77) dX12_named_77 rfl ?_
              refine r_if_eq (pc := 78) 88 dX12_named_78 (by decide) (fun c78 => ?_) (fun c78 => ?_)
              · skip
                first
                | exact absurd c78 (by decide)
                | skip
                  refine r_iload_n (pc := 88) dX12_named_88 rfl ?_
                  refine r_if_eq (pc := 89) 99 dX12_named_89 (by decide) (fun c89 => ?_) (fun c89 => ?_)
                  · skip
                    first
                    | exact absurd c89 (by decide)
                    | skip
                      refine r_aload_n (pc := 99) dX12_named_99 rfl ?_
                      refine r_getf (pc := 100) (k := 16) dX12_named_100 hX12 eX12 (by decide) fX12_150 (fun _ q => mo hm q) rfl ?_
                      refine r_ireturn (pc := 103) (ty := .int) dX12_named_103 rfl rfl ⟨Nat.zero_le _, Nat.zero_le _⟩ (fun gE hg => ?_)
                      first
                      | exact fin _ 0 (hn.trans (if_pos c3)) (by decide) q.2.2.2.2.1.symm gE hg
                      | exact fin _ 1 (hn.trans ((if_neg c3).trans (if_pos c15))) (by decide) q.2.2.2.2.2.1.symm gE hg
                      | exact fin _ 2 (hn.trans ((if_neg c3).trans ((if_neg c15).trans (if_pos (c39.trans hU.symm))))) (by decide) q.2.2.2.2.2.2.1.symm gE hg
                  · skip
                    first
                    | exact absurd rfl c89
                    | skip
                      refine r_aload_n (pc := 92) dX12_named_92 rfl ?_
                      refine r_getf (pc := 93) (k := 15) dX12_named_93 hX12 eX12 (by decide) fX12_147 (fun _ q => mo hm q) rfl ?_
                      refine r_goto (pc := 96) 103 dX12_named_96 (by decide) ?_
                      refine r_ireturn (pc := 103) (ty := .int) dX12_named_103 rfl rfl ⟨Nat.zero_le _, Nat.zero_le _⟩ (fun gE hg => ?_)
                      first
                      | exact fin _ 0 (hn.trans (if_pos c3)) (by decide) q.2.2.2.2.1.symm gE hg
                      | exact fin _ 1 (hn.trans ((if_neg c3).trans (if_pos c15))) (by decide) q.2.2.2.2.2.1.symm gE hg
                      | exact fin _ 2 (hn.trans ((if_neg c3).trans ((if_neg c15).trans (if_pos (c39.trans hU.symm))))) (by decide) q.2.2.2.2.2.2.1.symm gE hg
              · skip
                first
                | exact absurd rfl c78
                | skip
                  refine r_aload_n (pc := 81) dX12_named_81 rfl ?_
                  refine r_getf (pc := 82) (k := 14) dX12_named_82 hX12 eX12 (by decide) fX12_144 (fun _ q => mo hm q) rfl ?_
                  refine r_goto (pc := 85) 103 dX12_named_85 (by decide) ?_
                  refine r_ireturn (pc := 103) (ty := .int) dX12_named_103 rfl rfl ⟨Nat.zero_le _, Nat.zero_le _⟩ (fun gE hg => ?_)
                  first
                  | exact fin _ 0 (hn.trans (if_pos c3)) (by decide) q.2.2.2.2.1.symm gE hg
                  | exact fin _ 1 (hn.trans ((if_neg c3).trans (if_pos c15))) (by decide) q.2.2.2.2.2.1.symm gE hg
                  | exact fin _ 2 (hn.trans ((if_neg c3).trans ((if_neg c15).trans (if_pos (c39.trans hU.symm))))) (by decide) q.2.2.2.2.2.2.1.symm gE hg
          · skip
            first
            | exact absurd c50 (by decide)
            | skip
              refine r_iload_n (pc := 53) dX12_named_53 rfl ?_
              refine r_if_ne (pc := 54) 67 dX12_named_54 (by decide) (fun c54 => ?_) (fun c54 => ?_)
              · skip
                first
                | exact absurd rfl c54
                | skip
                  refine r_aload_n (pc := 67) dX12_named_67 rfl ?_
                  refine r_dup (pc := 68) dX12_named_68 rfl ?_
                  refine r_getf (pc := 69) (k := 11) dX12_named_69 hX12 eX12 (by decide) fX12_132 (fun _ q => mo hm q) rfl ?_
                  rw [q.2.1]
                  refine r_iconst (pc := 72) (v := 1) dX12_named_72 (by decide) ?_
                  refine r_iadd (pc := 73) dX12_named_73 ?_
                  rw [nI_1]
                  refine r_mp (pc := 74) (k := 11) hm dX12_named_74 fX12_132 (by decide) rfl rfl (fun _ _ => rfl) (fun _ _ => rfl) rfl ?_
                  refine r_iload_n (pc := 77) dX12_named_77 rfl ?_
                  refine r_if_eq (pc := 78) 88 dX12_named_78 (by decide) (fun c78 => ?_) (fun c78 => ?_)
                  · skip
                    first
                    | exact absurd c78 (by decide)
                    | skip
                      refine r_iload_n (pc := 88) dX12_named_88 rfl ?_
                      refine r_if_eq (pc := 89) 99 dX12_named_89 (by decide) (fun c89 => ?_) (fun c89 => ?_)
                      · skip
                        first
                        | exact absurd c89 (by decide)
                        | skip
                          refine r_aload_n (pc := 99) dX12_named_99 rfl ?_
                          refine r_getf (pc := 100) (k := 16) dX12_named_100 hX12 eX12 (by decide) fX12_150 (fun _ q => mo hm q) rfl ?_
                          refine r_ireturn (pc := 103) (ty := .int) dX12_named_103 rfl rfl ⟨Nat.zero_le _, Nat.zero_le _⟩ (fun gE hg => ?_)
                          first
                          | exact fin _ 0 (hn.trans (if_pos c3)) (by decide) q.2.2.2.2.1.symm gE hg
                          | exact fin _ 1 (hn.trans ((if_neg c3).trans (if_pos c15))) (by decide) q.2.2.2.2.2.1.symm gE hg
                          | exact fin _ 2 (hn.trans ((if_neg c3).trans ((if_neg c15).trans (if_pos (c39.trans hU.symm))))) (by decide) q.2.2.2.2.2.2.1.symm gE hg
                      · skip
                        first
                        | exact absurd rfl c89
                        | skip
                          refine r_aload_n (pc := 92) dX12_named_92 rfl ?_
                          refine r_getf (pc := 93) (k := 15) dX12_named_93 hX12 eX12 (by decide) fX12_147 (fun _ q => mo hm q) rfl ?_
                          refine r_goto (pc := 96) 103 dX12_named_96 (by decide) ?_
                          refine r_ireturn (pc := 103) (ty := .int) dX12_named_103 rfl rfl ⟨Nat.zero_le _, Nat.zero_le _⟩ (fun gE hg => ?_)
                          first
                          | exact fin _ 0 (hn.trans (if_pos c3)) (by decide) q.2.2.2.2.1.symm gE hg
                          | exact fin _ 1 (hn.trans ((if_neg c3).trans (if_pos c15))) (by decide) q.2.2.2.2.2.1.symm gE hg
                          | exact fin _ 2 (hn.trans ((if_neg c3).trans ((if_neg c15).trans (if_pos (c39.trans hU.symm))))) (by decide) q.2.2.2.2.2.2.1.symm gE hg
                  · skip
                    first
                    | exact absurd rfl c78
                    | skip
                      refine r_aload_n (pc := 81) dX12_named_81 rfl ?_
                      refine r_getf (pc := 82) (k := 14) dX12_named_82 hX12 eX12 (by decide) fX12_144 (fun _ q => mo hm q) rfl ?_
                      refine r_goto (pc := 85) 103 dX12_named_85 (by decide) ?_
                      refine r_ireturn (pc := 103) (ty := .int) dX12_named_103 rfl rfl ⟨Nat.zero_le _, Nat.zero_le _⟩ (fun gE hg => ?_)
                      first
                      | exact fin _ 0 (hn.trans (if_pos c3)) (by decide) q.2.2.2.2.1.symm gE hg
                      | exact fin _ 1 (hn.trans ((if_neg c3).trans (if_pos c15))) (by decide) q.2.2.2.2.2.1.symm gE hg
                      | exact fin _ 2 (hn.trans ((if_neg c3).trans ((if_neg c15).trans (if_pos (c39.trans hU.symm))))) (by decide) q.2.2.2.2.2.2.1.symm gE hg
              · skip
                first
                | exact absurd c54 (by decide)
                | skip
                  refine r_iload (pc := 57) dX12_named_57 rfl ?_
                  refine r_if_ne (pc := 59) 67 dX12_named_59 (by decide) (fun c59 => ?_) (fun c59 => ?_)
                  · skip
                    first
                    | exact absurd rfl c59
                    | skip
                      refine r_aload_n (pc := 67) dX12_named_67 rfl ?_
                      refine r_dup (pc := 68) dX12_named_68 rfl ?_
                      refine r_getf (pc := 69) (k := 11) dX12_named_69 hX12 eX12 (by decide) fX12_132 (fun _ q => mo hm q) rfl ?_
                      rw [q.2.1]
                      refine r_iconst (pc := 72) (v := 1) dX12_named_72 (by decide) ?_
                      refine r_iadd (pc := 73) dX12_named_73 ?_
                      rw [nI_1]
                      refine r_mp (pc := 74) (k := 11) hm dX12_named_74 fX12_132 (by decide) rfl rfl (fun _ _ => rfl) (fun _ _ => rfl) rfl ?_
                      refine r_iload_n (pc := 77) dX12_named_77 rfl ?_
                      refine r_if_eq (pc := 78) 88 dX12_named_78 (by decide) (fun c78 => ?_) (fun c78 => ?_)
                      · skip
                        first
                        | exact absurd c78 (by decide)
                        | skip
                          refine r_iload_n (pc := 88) dX12_named_88 rfl ?_
                          refine r_if_eq (pc := 89) 99 dX12_named_89 (by decide) (fun c89 => ?_) (fun c89 => ?_)
                          · skip
                            first
                            | exact absurd c89 (by decide)
                            | skip
                              refine r_aload_n (pc := 99) dX12_named_99 rfl ?_
                              refine r_getf (pc := 100) (k := 16) dX12_named_100 hX12 eX12 (by decide) fX12_150 (fun _ q => mo hm q) rfl ?_
                              refine r_ireturn (pc := 103) (ty := .int) dX12_named_103 rfl rfl ⟨Nat.zero_le _, Nat.zero_le _⟩ (fun gE hg => ?_)
                              first
                              | exact fin _ 0 (hn.trans (if_pos c3)) (by decide) q.2.2.2.2.1.symm gE hg
                              | exact fin _ 1 (hn.trans ((if_neg c3).trans (if_pos c15))) (by decide) q.2.2.2.2.2.1.symm gE hg
                              | exact fin _ 2 (hn.trans ((if_neg c3).trans ((if_neg c15).trans (if_pos (c39.trans hU.symm))))) (by decide) q.2.2.2.2.2.2.1.symm gE hg
                          · skip
                            first
                            | exact absurd rfl c89
                            | skip
                              refine r_aload_n (pc := 92) dX12_named_92 rfl ?_
                              refine r_getf (pc := 93) (k := 15) dX12_named_93 hX12 eX12 (by decide) fX12_147 (fun _ q => mo hm q) rfl ?_
                              refine r_goto (pc := 96) 103 dX12_named_96 (by decide) ?_
                              refine r_ireturn (pc := 103) (ty := .int) dX12_named_103 rfl rfl ⟨Nat.zero_le _, Nat.zero_le _⟩ (fun gE hg => ?_)
                              first
                              | exact fin _ 0 (hn.trans (if_pos c3)) (by decide) q.2.2.2.2.1.symm gE hg
                              | exact fin _ 1 (hn.trans ((if_neg c3).trans (if_pos c15))) (by decide) q.2.2.2.2.2.1.symm gE hg
                              | exact fin _ 2 (hn.trans ((if_neg c3).trans ((if_neg c15).trans (if_pos (c39.trans hU.symm))))) (by decide) q.2.2.2.2.2.2.1.symm gE hg
                      · skip
                        first
                        | exact absurd rfl c78
                        | skip
                          refine r_aload_n (pc := 81) dX12_named_81 rfl ?_
                          refine r_getf (pc := 82) (k := 14) dX12_named_82 hX12 eX12 (by decide) fX12_144 (fun _ q => mo hm q) rfl ?_
                          refine r_goto (pc := 85) 103 dX12_named_85 (by decide) ?_
                          refine r_ireturn (pc := 103) (ty := .int) dX12_named_103 rfl rfl ⟨Nat.zero_le _, Nat.zero_le _⟩ (fun gE hg => ?_)
                          first
                          | exact fin _ 0 (hn.trans (if_pos c3)) (by decide) q.2.2.2.2.1.symm gE hg
                          | exact fin _ 1 (hn.trans ((if_neg c3).trans (if_pos c15))) (by decide) q.2.2.2.2.2.1.symm gE hg
                          | exact fin _ 2 (hn.trans ((if_neg c3).trans ((if_neg c15).trans (if_pos (c39.trans hU.symm))))) (by decide) q.2.2.2.2.2.2.1.symm gE hg
                  · skip
                    first
                    | exact absurd c59 (by decide)
                    | skip
                      refine r_aload_n (pc := 62) dX12_named_62 rfl ?_
                      refine r_Vi (pc := 63) (μ' := mX12_fails) dX12_named_63 nX12_141 iX12_fails vX12_fails kX12_fails rfl rfl (rr (by decide) rfl) rfl ⟨Nat.zero_le _, Nat.zero_le _⟩ (fun _ q_ => cvq q_ (ct_M_fails hm)) ?_
                      refine r_ireturn (pc := 66) (ty := .int) dX12_named_66 rfl rfl ⟨Nat.zero_le _, Nat.zero_le _⟩ (fun gE hg => ?_)
                      have e1 : nameI (nI u) c = -1 := hn.trans ((if_neg c3).trans ((if_neg c15).trans (if_neg (fun x => c39 (x.trans hU)))))
                      rw [e1, if_neg (by decide), if_neg (by decide), if_neg (by decide), if_neg (by decide)]
                      exact ⟨rfl, _, ⟨q.fl, (sFr.rf s).up (by omega)⟩, hg⟩
        · skip
          refine r_iconst (pc := 42) (v := 1) dX12_named_42 (by decide) ?_
          refine r_goto (pc := 43) 47 dX12_named_43 (by decide) ?_
          refine r_istore (pc := 47) dX12_named_47 (Nat.le_of_ble_eq_true rfl) rfl ?_
          dsimp only [lset]
          refine r_iload_n (pc := 49) dX12_named_49 rfl ?_
          refine r_if_ne (pc := 50) 67 dX12_named_50 (by decide) (fun c50 => ?_) (fun c50 => ?_)
          · skip
            first
            | exact absurd rfl c50
            | skip
              refine r_aload_n (pc := 67) dX12_named_67 rfl ?_
              refine r_dup (pc := 68) dX12_named_68 rfl ?_
              refine r_getf (pc := 69) (k := 11) dX12_named_69 hX12 eX12 (by decide) fX12_132 (fun _ q => mo hm q) rfl ?_
              rw [q.2.1]
              refine r_iconst (pc := 72) (v := 1) dX12_named_72 (by decide) ?_
              refine r_iadd (pc := 73) dX12_named_73 ?_
              rw [nI_1]
              refine r_mp (pc := 74) (k := 11) hm dX12_named_74 fX12_132 (by decide) rfl rfl (fun _ _ => rfl) (fun _ _ => rfl) rfl ?_
              refine r_iload_n (pc := 77) dX12_named_77 rfl ?_
              refine r_if_eq (pc := 78) 88 dX12_named_78 (by decide) (fun c78 => ?_) (fun c78 => ?_)
              · skip
                first
                | exact absurd c78 (by decide)
                | skip
                  refine r_iload_n (pc := 88) dX12_named_88 rfl ?_
                  refine r_if_eq (pc := 89) 99 dX12_named_89 (by decide) (fun c89 => ?_) (fun c89 => ?_)
                  · skip
                    first
                    | exact absurd c89 (by decide)
                    | skip
                      refine r_aload_n (pc := 99) dX12_named_99 rfl ?_
                      refine r_getf (pc := 100) (k := 16) dX12_named_100 hX12 eX12 (by decide) fX12_150 (fun _ q => mo hm q) rfl ?_
                      refine r_ireturn (pc := 103) (ty := .int) dX12_named_103 rfl rfl ⟨Nat.zero_le _, Nat.zero_le _⟩ (fun gE hg => ?_)
                      first
                      | exact fin _ 0 (hn.trans (if_pos c3)) (by decide) q.2.2.2.2.1.symm gE hg
                      | exact fin _ 1 (hn.trans ((if_neg c3).trans (if_pos c15))) (by decide) q.2.2.2.2.2.1.symm gE hg
                      | exact fin _ 2 (hn.trans ((if_neg c3).trans ((if_neg c15).trans (if_pos (c39.trans hU.symm))))) (by decide) q.2.2.2.2.2.2.1.symm gE hg
                  · skip
                    first
                    | exact absurd rfl c89
                    | skip
                      refine r_aload_n (pc := 92) dX12_named_92 rfl ?_
                      refine r_getf (pc := 93) (k := 15) dX12_named_93 hX12 eX12 (by decide) fX12_147 (fun _ q => mo hm q) rfl ?_
                      refine r_goto (pc := 96) 103 dX12_named_96 (by decide) ?_
                      refine r_ireturn (pc := 103) (ty := .int) dX12_named_103 rfl rfl ⟨Nat.zero_le _, Nat.zero_le _⟩ (fun gE hg => ?_)
                      first
                      | exact fin _ 0 (hn.trans (if_pos c3)) (by decide) q.2.2.2.2.1.symm gE hg
                      | exact fin _ 1 (hn.trans ((if_neg c3).trans (if_pos c15))) (by decide) q.2.2.2.2.2.1.symm gE hg
                      | exact fin _ 2 (hn.trans ((if_neg c3).trans ((if_neg c15).trans (if_pos (c39.trans hU.symm))))) (by decide) q.2.2.2.2.2.2.1.symm gE hg
              · skip
                first
                | exact absurd rfl c78
                | skip
                  refine r_aload_n (pc := 81) dX12_named_81 rfl ?_
                  refine r_getf (pc := 82) (k := 14) dX12_named_82 hX12 eX12 (by decide) fX12_144 (fun _ q => mo hm q) rfl ?_
                  refine r_goto (pc := 85) 103 dX12_named_85 (by decide) ?_
                  refine r_ireturn (pc := 103) (ty := .int) dX12_named_103 rfl rfl ⟨Nat.zero_le _, Nat.zero_le _⟩ (fun gE hg => ?_)
                  first
                  | exact fin _ 0 (hn.trans (if_pos c3)) (by decide) q.2.2.2.2.1.symm gE hg
                  | exact fin _ 1 (hn.trans ((if_neg c3).trans (if_pos c15))) (by decide) q.2.2.2.2.2.1.symm gE hg
                  | exact fin _ 2 (hn.trans ((if_neg c3).trans ((if_neg c15).trans (if_pos (c39.trans hU.symm))))) (by decide) q.2.2.2.2.2.2.1.symm gE hg
          · skip
            first
            | exact absurd c50 (by decide)
            | skip
              refine r_iload_n (pc := 53) dX12_named_53 rfl ?_
              refine r_if_ne (pc := 54) 67 dX12_named_54 (by decide) (fun c54 => ?_) (fun c54 => ?_)
              · skip
                first
                | exact absurd rfl c54
                | skip
                  refine r_aload_n (pc := 67) dX12_named_67 rfl ?_
                  refine r_dup (pc := 68) dX12_named_68 rfl ?_
                  refine r_getf (pc := 69) (k := 11) dX12_named_69 hX12 eX12 (by decide) fX12_132 (fun _ q => mo hm q) rfl ?_
                  rw [q.2.1]
                  refine r_iconst (pc := 72) (v := 1) dX12_named_72 (by decide) ?_
                  refine r_iadd (pc := 73) dX12_named_73 ?_
                  rw [nI_1]
                  refine r_mp (pc := 74) (k := 11) hm dX12_named_74 fX12_132 (by decide) rfl rfl (fun _ _ => rfl) (fun _ _ => rfl) rfl ?_
                  refine r_iload_n (pc := 77) dX12_named_77 rfl ?_
                  refine r_if_eq (pc := 78) 88 dX12_named_78 (by decide) (fun c78 => ?_) (fun c78 => ?_)
                  · skip
                    first
                    | exact absurd c78 (by decide)
                    | skip
                      refine r_iload_n (pc := 88) dX12_named_88 rfl ?_
                      refine r_if_eq (pc := 89) 99 dX12_named_89 (by decide) (fun c89 => ?_) (fun c89 => ?_)
                      · skip
                        first
                        | exact absurd c89 (by decide)
                        | skip
                          refine r_aload_n (pc := 99) dX12_named_99 rfl ?_
                          refine r_getf (pc := 100) (k := 16) dX12_named_100 hX12 eX12 (by decide) fX12_150 (fun _ q => mo hm q) rfl ?_
                          refine r_ireturn (pc := 103) (ty := .int) dX12_named_103 rfl rfl ⟨Nat.zero_le _, Nat.zero_le _⟩ (fun gE hg => ?_)
                          first
                          | exact fin _ 0 (hn.trans (if_pos c3)) (by decide) q.2.2.2.2.1.symm gE hg
                          | exact fin _ 1 (hn.trans ((if_neg c3).trans (if_pos c15))) (by decide) q.2.2.2.2.2.1.symm gE hg
                          | exact fin _ 2 (hn.trans ((if_neg c3).trans ((if_neg c15).trans (if_pos (c39.trans hU.symm))))) (by decide) q.2.2.2.2.2.2.1.symm gE hg
                      · skip
                        first
                        | exact absurd rfl c89
                        | skip
                          refine r_aload_n (pc := 92) dX12_named_92 rfl ?_
                          refine r_getf (pc := 93) (k := 15) dX12_named_93 hX12 eX12 (by decide) fX12_147 (fun _ q => mo hm q) rfl ?_
                          refine r_goto (pc := 96) 103 dX12_named_96 (by decide) ?_
                          refine r_ireturn (pc := 103) (ty := .int) dX12_named_103 rfl rfl ⟨Nat.zero_le _, Nat.zero_le _⟩ (fun gE hg => ?_)
                          first
                          | exact fin _ 0 (hn.trans (if_pos c3)) (by decide) q.2.2.2.2.1.symm gE hg
                          | exact fin _ 1 (hn.trans ((if_neg c3).trans (if_pos c15))) (by decide) q.2.2.2.2.2.1.symm gE hg
                          | exact fin _ 2 (hn.trans ((if_neg c3).trans ((if_neg c15).trans (if_pos (c39.trans hU.symm))))) (by decide) q.2.2.2.2.2.2.1.symm gE hg
                  · skip
                    first
                    | exact absurd rfl c78
                    | skip
                      refine r_aload_n (pc := 81) dX12_named_81 rfl ?_
                      refine r_getf (pc := 82) (k := 14) dX12_named_82 hX12 eX12 (by decide) fX12_144 (fun _ q => mo hm q) rfl ?_
                      refine r_goto (pc := 85) 103 dX12_named_85 (by decide) ?_
                      refine r_ireturn (pc := 103) (ty := .int) dX12_named_103 rfl rfl ⟨Nat.zero_le _, Nat.zero_le _⟩ (fun gE hg => ?_)
                      first
                      | exact fin _ 0 (hn.trans (if_pos c3)) (by decide) q.2.2.2.2.1.symm gE hg
                      | exact fin _ 1 (hn.trans ((if_neg c3).trans (if_pos c15))) (by decide) q.2.2.2.2.2.1.symm gE hg
                      | exact fin _ 2 (hn.trans ((if_neg c3).trans ((if_neg c15).trans (if_pos (c39.trans hU.symm))))) (by decide) q.2.2.2.2.2.2.1.symm gE hg
              · skip
                first
                | exact absurd c54 (by decide)
                | skip
                  refine r_iload (pc := 57) dX12_named_57 rfl ?_
                  refine r_if_ne (pc := 59) 67 dX12_named_59 (by decide) (fun c59 => ?_) (fun c59 => ?_)
                  · skip
                    first
                    | exact absurd rfl c59
                    | skip
                      refine r_aload_n (pc := 67) dX12_named_67 rfl ?_
                      refine r_dup (pc := 68) dX12_named_68 rfl ?_
                      refine r_getf (pc := 69) (k := 11) dX12_named_69 hX12 eX12 (by decide) fX12_132 (fun _ q => mo hm q) rfl ?_
                      rw [q.2.1]
                      refine r_iconst (pc := 72) (v := 1) dX12_named_72 (by decide) ?_
                      refine r_iadd (pc := 73) dX12_named_73 ?_
                      rw [nI_1]
                      refine r_mp (pc := 74) (k := 11) hm dX12_named_74 fX12_132 (by decide) rfl rfl (fun _ _ => rfl) (fun _ _ => rfl) rfl ?_
                      refine r_iload_n (pc := 77) dX12_named_77 rfl ?_
                      refine r_if_eq (pc := 78) 88 dX12_named_78 (by decide) (fun c78 => ?_) (fun c78 => ?_)
                      · skip
                        first
                        | exact absurd c78 (by decide)
                        | skip
                          refine r_iload_n (pc := 88) dX12_named_88 rfl ?_
                          refine r_if_eq (pc := 89) 99 dX12_named_89 (by decide) (fun c89 => ?_) (fun c89 => ?_)
                          · skip
                            first
                            | exact absurd c89 (by decide)
                            | skip
                              refine r_aload_n (pc := 99) dX12_named_99 rfl ?_
                              refine r_getf (pc := 100) (k := 16) dX12_named_100 hX12 eX12 (by decide) fX12_150 (fun _ q => mo hm q) rfl ?_
                              refine r_ireturn (pc := 103) (ty := .int) dX12_named_103 rfl rfl ⟨Nat.zero_le _, Nat.zero_le _⟩ (fun gE hg => ?_)
                              first
                              | exact fin _ 0 (hn.trans (if_pos c3)) (by decide) q.2.2.2.2.1.symm gE hg
                              | exact fin _ 1 (hn.trans ((if_neg c3).trans (if_pos c15))) (by decide) q.2.2.2.2.2.1.symm gE hg
                              | exact fin _ 2 (hn.trans ((if_neg c3).trans ((if_neg c15).trans (if_pos (c39.trans hU.symm))))) (by decide) q.2.2.2.2.2.2.1.symm gE hg
                          · skip
                            first
                            | exact absurd rfl c89
                            | skip
                              refine r_aload_n (pc := 92) dX12_named_92 rfl ?_
                              refine r_getf (pc := 93) (k := 15) dX12_named_93 hX12 eX12 (by decide) fX12_147 (fun _ q => mo hm q) rfl ?_
                              refine r_goto (pc := 96) 103 dX12_named_96 (by decide) ?_
                              refine r_ireturn (pc := 103) (ty := .int) dX12_named_103 rfl rfl ⟨Nat.zero_le _, Nat.zero_le _⟩ (fun gE hg => ?_)
                              first
                              | exact fin _ 0 (hn.trans (if_pos c3)) (by decide) q.2.2.2.2.1.symm gE hg
                              | exact fin _ 1 (hn.trans ((if_neg c3).trans (if_pos c15))) (by decide) q.2.2.2.2.2.1.symm gE hg
                              | exact fin _ 2 (hn.trans ((if_neg c3).trans ((if_neg c15).trans (if_pos (c39.trans hU.symm))))) (by decide) q.2.2.2.2.2.2.1.symm gE hg
                      · skip
                        first
                        | exact absurd rfl c78
                        | skip
                          refine r_aload_n (pc := 81) dX12_named_81 rfl ?_
                          refine r_getf (pc := 82) (k := 14) dX12_named_82 hX12 eX12 (by decide) fX12_144 (fun _ q => mo hm q) rfl ?_
                          refine r_goto (pc := 85) 103 dX12_named_85 (by decide) ?_
                          refine r_ireturn (pc := 103) (ty := .int) dX12_named_103 rfl rfl ⟨Nat.zero_le _, Nat.zero_le _⟩ (fun gE hg => ?_)
                          first
                          | exact fin _ 0 (hn.trans (if_pos c3)) (by decide) q.2.2.2.2.1.symm gE hg
                          | exact fin _ 1 (hn.trans ((if_neg c3).trans (if_pos c15))) (by decide) q.2.2.2.2.2.1.symm gE hg
                          | exact fin _ 2 (hn.trans ((if_neg c3).trans ((if_neg c15).trans (if_pos (c39.trans hU.symm))))) (by decide) q.2.2.2.2.2.2.1.symm gE hg
                  · skip
                    first
                    | exact absurd c59 (by decide)
                    | skip
                      refine r_aload_n (pc := 62) dX12_named_62 rfl ?_
                      refine r_Vi (pc := 63) (μ' := mX12_fails) dX12_named_63 nX12_141 iX12_fails vX12_fails kX12_fails rfl rfl (rr (by decide) rfl) rfl ⟨Nat.zero_le _, Nat.zero_le _⟩ (fun _ q_ => cvq q_ (ct_M_fails hm)) ?_
                      refine r_ireturn (pc := 66) (ty := .int) dX12_named_66 rfl rfl ⟨Nat.zero_le _, Nat.zero_le _⟩ (fun gE hg => ?_)
                      have e1 : nameI (nI u) c = -1 := hn.trans ((if_neg c3).trans ((if_neg c15).trans (if_neg (fun x => c39 (x.trans hU)))))
                      rw [e1, if_neg (by decide), if_neg (by decide), if_neg (by decide), if_neg (by decide)]
                      exact ⟨rfl, _, ⟨q.fl, (sFr.rf s).up (by omega)⟩, hg⟩
  · skip
    refine r_iconst (pc := 6) (v := 1) dX12_named_6 (by decide) ?_
    refine r_goto (pc := 7) 11 dX12_named_7 (by decide) ?_
    refine r_istore_n (pc := 11) dX12_named_11 rfl (Nat.le_of_ble_eq_true rfl) rfl ?_
    dsimp only [lset]
    refine r_iload_n (pc := 12) dX12_named_12 rfl ?_
    refine r_bipush (pc := 13) (v := 115) dX12_named_13 (by decide) ?_
    refine r_icmp_ne (pc := 15) 22 dX12_named_15 (by decide) (fun c15 => ?_) (fun c15 => ?_)
    · skip
      refine r_iconst (pc := 22) (v := 0) dX12_named_22 (by decide) ?_
      refine r_istore_n (pc := 23) dX12_named_23 rfl (Nat.le_of_ble_eq_true rfl) rfl ?_
      dsimp only [lset]
      refine r_iload_n (pc := 24) dX12_named_24 rfl ?_
      refine r_aload_n (pc := 25) dX12_named_25 rfl ?_
      refine r_getf (pc := 26) (k := 10) dX12_named_26 hX12 eX12 (by decide) fX12_126 (fun _ q => mo hm q) rfl ?_
      rw [q.1]
      refine r_if_ne (pc := 29) 37 dX12_named_29 (by decide) (fun c29 => ?_) (fun c29 => ?_)
      · skip
        have hU : (if nI u = 0 then (104 : Int32) else 119) = 119 := if_neg c29
        refine r_bipush (pc := 37) (v := 119) dX12_named_37 (by decide) ?_
        refine r_icmp_ne (pc := 39) 46 dX12_named_39 (by decide) (fun c39 => ?_) (fun c39 => ?_)
        · skip
          refine r_iconst (pc := 46) (v := 0) dX12_named_46 (by decide) ?_
          refine r_istore (pc := 47) dX12_named_47 (Nat.le_of_ble_eq_true rfl) rfl ?_
          dsimp only [lset]
          refine r_iload_n (pc := 49) dX12_named_49 rfl ?_
          refine r_if_ne (pc := 50) 67 dX12_named_50 (by decide) (fun c50 => ?_) (fun c50 => ?_)
          · skip
            first
            | exact absurd rfl c50
            | skip
              refine r_aload_n (pc := 67) dX12_named_67 rfl ?_
              refine r_dup (pc := 68) dX12_named_68 rfl ?_
              refine r_getf (pc := 69) (k := 11) dX12_named_69 hX12 eX12 (by decide) fX12_132 (fun _ q => mo hm q) rfl ?_
              rw [q.2.1]
              refine r_iconst (pc := 72) (v := 1) dX12_named_72 (by decide) ?_
              refine r_iadd (pc := 73) dX12_named_73 ?_
              rw [nI_1]
              refine r_mp (pc := 74) (k := 11) hm dX12_named_74 fX12_132 (by decide) rfl rfl (fun _ _ => rfl) (fun _ _ => rfl) rfl ?_
              refine r_iload_n (pc := 77) dX12_named_77 rfl ?_
              refine r_if_eq (pc := 78) 88 dX12_named_78 (by decide) (fun c78 => ?_) (fun c78 => ?_)
              · skip
                first
                | exact absurd c78 (by decide)
                | skip
                  refine r_iload_n (pc := 88) dX12_named_88 rfl ?_
                  refine r_if_eq (pc := 89) 99 dX12_named_89 (by decide) (fun c89 => ?_) (fun c89 => ?_)
                  · skip
                    first
                    | exact absurd c89 (by decide)
                    | skip
                      refine r_aload_n (pc := 99) dX12_named_99 rfl ?_
                      refine r_getf (pc := 100) (k := 16) dX12_named_100 hX12 eX12 (by decide) fX12_150 (fun _ q => mo hm q) rfl ?_
                      refine r_ireturn (pc := 103) (ty := .int) dX12_named_103 rfl rfl ⟨Nat.zero_le _, Nat.zero_le _⟩ (fun gE hg => ?_)
                      first
                      | exact fin _ 0 (hn.trans (if_pos c3)) (by decide) q.2.2.2.2.1.symm gE hg
                      | exact fin _ 1 (hn.trans ((if_neg c3).trans (if_pos c15))) (by decide) q.2.2.2.2.2.1.symm gE hg
                      | exact fin _ 2 (hn.trans ((if_neg c3).trans ((if_neg c15).trans (if_pos (c39.trans hU.symm))))) (by decide) q.2.2.2.2.2.2.1.symm gE hg
                  · skip
                    first
                    | exact absurd rfl c89
                    | skip
                      refine r_aload_n (pc := 92) dX12_named_92 rfl ?_
                      refine r_getf (pc := 93) (k := 15) dX12_named_93 hX12 eX12 (by decide) fX12_147 (fun _ q => mo hm q) rfl ?_
                      refine r_goto (pc := 96) 103 dX12_named_96 (by decide) ?_
                      refine r_ireturn (pc := 103) (ty := .int) dX12_named_103 rfl rfl ⟨Nat.zero_le _, Nat.zero_le _⟩ (fun gE hg => ?_)
                      first
                      | exact fin _ 0 (hn.trans (if_pos c3)) (by decide) q.2.2.2.2.1.symm gE hg
                      | exact fin _ 1 (hn.trans ((if_neg c3).trans (if_pos c15))) (by decide) q.2.2.2.2.2.1.symm gE hg
                      | exact fin _ 2 (hn.trans ((if_neg c3).trans ((if_neg c15).trans (if_pos (c39.trans hU.symm))))) (by decide) q.2.2.2.2.2.2.1.symm gE hg
              · skip
                first
                | exact absurd rfl c78
                | skip
                  refine r_aload_n (pc := 81) dX12_named_81 rfl ?_
                  refine r_getf (pc := 82) (k := 14) dX12_named_82 hX12 eX12 (by decide) fX12_144 (fun _ q => mo hm q) rfl ?_
                  refine r_goto (pc := 85) 103 dX12_named_85 (by decide) ?_
                  refine r_ireturn (pc := 103) (ty := .int) dX12_named_103 rfl rfl ⟨Nat.zero_le _, Nat.zero_le _⟩ (fun gE hg => ?_)
                  first
                  | exact fin _ 0 (hn.trans (if_pos c3)) (by decide) q.2.2.2.2.1.symm gE hg
                  | exact fin _ 1 (hn.trans ((if_neg c3).trans (if_pos c15))) (by decide) q.2.2.2.2.2.1.symm gE hg
                  | exact fin _ 2 (hn.trans ((if_neg c3).trans ((if_neg c15).trans (if_pos (c39.trans hU.symm))))) (by decide) q.2.2.2.2.2.2.1.symm gE hg
          · skip
            first
            | exact absurd c50 (by decide)
            | skip
              refine r_iload_n (pc := 53) dX12_named_53 rfl ?_
              refine r_if_ne (pc := 54) 67 dX12_named_54 (by decide) (fun c54 => ?_) (fun c54 => ?_)
              · skip
                first
                | exact absurd rfl c54
                | skip
                  refine r_aload_n (pc := 67) dX12_named_67 rfl ?_
                  refine r_dup (pc := 68) dX12_named_68 rfl ?_
                  refine r_getf (pc := 69) (k := 11) dX12_named_69 hX12 eX12 (by decide) fX12_132 (fun _ q => mo hm q) rfl ?_
                  rw [q.2.1]
                  refine r_iconst (pc := 72) (v := 1) dX12_named_72 (by decide) ?_
                  refine r_iadd (pc := 73) dX12_named_73 ?_
                  rw [nI_1]
                  refine r_mp (pc := 74) (k := 11) hm dX12_named_74 fX12_132 (by decide) rfl rfl (fun _ _ => rfl) (fun _ _ => rfl) rfl ?_
                  refine r_iload_n (pc := 77) dX12_named_77 rfl ?_
                  refine r_if_eq (pc := 78) 88 dX12_named_78 (by decide) (fun c78 => ?_) (fun c78 => ?_)
                  · skip
                    first
                    | exact absurd c78 (by decide)
                    | skip
                      refine r_iload_n (pc := 88) dX12_named_88 rfl ?_
                      refine r_if_eq (pc := 89) 99 dX12_named_89 (by decide) (fun c89 => ?_) (fun c89 => ?_)
                      · skip
                        first
                        | exact absurd c89 (by decide)
                        | skip
                          refine r_aload_n (pc := 99) dX12_named_99 rfl ?_
                          refine r_getf (pc := 100) (k := 16) dX12_named_100 hX12 eX12 (by decide) fX12_150 (fun _ q => mo hm q) rfl ?_
                          refine r_ireturn (pc := 103) (ty := .int) dX12_named_103 rfl rfl ⟨Nat.zero_le _, Nat.zero_le _⟩ (fun gE hg => ?_)
                          first
                          | exact fin _ 0 (hn.trans (if_pos c3)) (by decide) q.2.2.2.2.1.symm gE hg
                          | exact fin _ 1 (hn.trans ((if_neg c3).trans (if_pos c15))) (by decide) q.2.2.2.2.2.1.symm gE hg
                          | exact fin _ 2 (hn.trans ((if_neg c3).trans ((if_neg c15).trans (if_pos (c39.trans hU.symm))))) (by decide) q.2.2.2.2.2.2.1.symm gE hg
                      · skip
                        first
                        | exact absurd rfl c89
                        | skip
                          refine r_aload_n (pc := 92) dX12_named_92 rfl ?_
                          refine r_getf (pc := 93) (k := 15) dX12_named_93 hX12 eX12 (by decide) fX12_147 (fun _ q => mo hm q) rfl ?_
                          refine r_goto (pc := 96) 103 dX12_named_96 (by decide) ?_
                          refine r_ireturn (pc := 103) (ty := .int) dX12_named_103 rfl rfl ⟨Nat.zero_le _, Nat.zero_le _⟩ (fun gE hg => ?_)
                          first
                          | exact fin _ 0 (hn.trans (if_pos c3)) (by decide) q.2.2.2.2.1.symm gE hg
                          | exact fin _ 1 (hn.trans ((if_neg c3).trans (if_pos c15))) (by decide) q.2.2.2.2.2.1.symm gE hg
                          | exact fin _ 2 (hn.trans ((if_neg c3).trans ((if_neg c15).trans (if_pos (c39.trans hU.symm))))) (by decide) q.2.2.2.2.2.2.1.symm gE hg
                  · skip
                    first
                    | exact absurd rfl c78
                    | skip
                      refine r_aload_n (pc := 81) dX12_named_81 rfl ?_
                      refine r_getf (pc := 82) (k := 14) dX12_named_82 hX12 eX12 (by decide) fX12_144 (fun _ q => mo hm q) rfl ?_
                      refine r_goto (pc := 85) 103 dX12_named_85 (by decide) ?_
                      refine r_ireturn (pc := 103) (ty := .int) dX12_named_103 rfl rfl ⟨Nat.zero_le _, Nat.zero_le _⟩ (fun gE hg => ?_)
                      first
                      | exact fin _ 0 (hn.trans (if_pos c3)) (by decide) q.2.2.2.2.1.symm gE hg
                      | exact fin _ 1 (hn.trans ((if_neg c3).trans (if_pos c15))) (by decide) q.2.2.2.2.2.1.symm gE hg
                      | exact fin _ 2 (hn.trans ((if_neg c3).trans ((if_neg c15).trans (if_pos (c39.trans hU.symm))))) (by decide) q.2.2.2.2.2.2.1.symm gE hg
              · skip
                first
                | exact absurd c54 (by decide)
                | skip
                  refine r_iload (pc := 57) dX12_named_57 rfl ?_
                  refine r_if_ne (pc := 59) 67 dX12_named_59 (by decide) (fun c59 => ?_) (fun c59 => ?_)
                  · skip
                    first
                    | exact absurd rfl c59
                    | skip
                      refine r_aload_n (pc := 67) dX12_named_67 rfl ?_
                      refine r_dup (pc := 68) dX12_named_68 rfl ?_
                      refine r_getf (pc := 69) (k := 11) dX12_named_69 hX12 eX12 (by decide) fX12_132 (fun _ q => mo hm q) rfl ?_
                      rw [q.2.1]
                      refine r_iconst (pc := 72) (v := 1) dX12_named_72 (by decide) ?_
                      refine r_iadd (pc := 73) dX12_named_73 ?_
                      rw [nI_1]
                      refine r_mp (pc := 74) (k := 11) hm dX12_named_74 fX12_132 (by decide) rfl rfl (fun _ _ => rfl) (fun _ _ => rfl) rfl ?_
                      refine r_iload_n (pc := 77) dX12_named_77 rfl ?_
                      refine r_if_eq (pc := 78) 88 dX12_named_78 (by decide) (fun c78 => ?_) (fun c78 => ?_)
                      · skip
                        first
                        | exact absurd c78 (by decide)
                        | skip
                          refine r_iload_n (pc := 88) dX12_named_88 rfl ?_
                          refine r_if_eq (pc := 89) 99 dX12_named_89 (by decide) (fun c89 => ?_) (fun c89 => ?_)
                          · skip
                            first
                            | exact absurd c89 (by decide)
                            | skip
                              refine r_aload_n (pc := 99) dX12_named_99 rfl ?_
                              refine r_getf (pc := 100) (k := 16) dX12_named_100 hX12 eX12 (by decide) fX12_150 (fun _ q => mo hm q) rfl ?_
                              refine r_ireturn (pc := 103) (ty := .int) dX12_named_103 rfl rfl ⟨Nat.zero_le _, Nat.zero_le _⟩ (fun gE hg => ?_)
                              first
                              | exact fin _ 0 (hn.trans (if_pos c3)) (by decide) q.2.2.2.2.1.symm gE hg
                              | exact fin _ 1 (hn.trans ((if_neg c3).trans (if_pos c15))) (by decide) q.2.2.2.2.2.1.symm gE hg
                              | exact fin _ 2 (hn.trans ((if_neg c3).trans ((if_neg c15).trans (if_pos (c39.trans hU.symm))))) (by decide) q.2.2.2.2.2.2.1.symm gE hg
                          · skip
                            first
                            | exact absurd rfl c89
                            | skip
                              refine r_aload_n (pc := 92) dX12_named_92 rfl ?_
                              refine r_getf (pc := 93) (k := 15) dX12_named_93 hX12 eX12 (by decide) fX12_147 (fun _ q => mo hm q) rfl ?_
                              refine r_goto (pc := 96) 103 dX12_named_96 (by decide) ?_
                              refine r_ireturn (pc := 103) (ty := .int) dX12_named_103 rfl rfl ⟨Nat.zero_le _, Nat.zero_le _⟩ (fun gE hg => ?_)
                              first
                              | exact fin _ 0 (hn.trans (if_pos c3)) (by decide) q.2.2.2.2.1.symm gE hg
                              | exact fin _ 1 (hn.trans ((if_neg c3).trans (if_pos c15))) (by decide) q.2.2.2.2.2.1.symm gE hg
                              | exact fin _ 2 (hn.trans ((if_neg c3).trans ((if_neg c15).trans (if_pos (c39.trans hU.symm))))) (by decide) q.2.2.2.2.2.2.1.symm gE hg
                      · skip
                        first
                        | exact absurd rfl c78
                        | skip
                          refine r_aload_n (pc := 81) dX12_named_81 rfl ?_
                          refine r_getf (pc := 82) (k := 14) dX12_named_82 hX12 eX12 (by decide) fX12_144 (fun _ q => mo hm q) rfl ?_
                          refine r_goto (pc := 85) 103 dX12_named_85 (by decide) ?_
                          refine r_ireturn (pc := 103) (ty := .int) dX12_named_103 rfl rfl ⟨Nat.zero_le _, Nat.zero_le _⟩ (fun gE hg => ?_)
                          first
                          | exact fin _ 0 (hn.trans (if_pos c3)) (by decide) q.2.2.2.2.1.symm gE hg
                          | exact fin _ 1 (hn.trans ((if_neg c3).trans (if_pos c15))) (by decide) q.2.2.2.2.2.1.symm gE hg
                          | exact fin _ 2 (hn.trans ((if_neg c3).trans ((if_neg c15).trans (if_pos (c39.trans hU.symm))))) (by decide) q.2.2.2.2.2.2.1.symm gE hg
                  · skip
                    first
                    | exact absurd c59 (by decide)
                    | skip
                      refine r_aload_n (pc := 62) dX12_named_62 rfl ?_
                      refine r_Vi (pc := 63) (μ' := mX12_fails) dX12_named_63 nX12_141 iX12_fails vX12_fails kX12_fails rfl rfl (rr (by decide) rfl) rfl ⟨Nat.zero_le _, Nat.zero_le _⟩ (fun _ q_ => cvq q_ (ct_M_fails hm)) ?_
                      refine r_ireturn (pc := 66) (ty := .int) dX12_named_66 rfl rfl ⟨Nat.zero_le _, Nat.zero_le _⟩ (fun gE hg => ?_)
                      have e1 : nameI (nI u) c = -1 := hn.trans ((if_neg c3).trans ((if_neg c15).trans (if_neg (fun x => c39 (x.trans hU)))))
                      rw [e1, if_neg (by decide), if_neg (by decide), if_neg (by decide), if_neg (by decide)]
                      exact ⟨rfl, _, ⟨q.fl, (sFr.rf s).up (by omega)⟩, hg⟩
        · skip
          refine r_iconst (pc := 42) (v := 1) dX12_named_42 (by decide) ?_
          refine r_goto (pc := 43) 47 dX12_named_43 (by decide) ?_
          refine r_istore (pc := 47) dX12_named_47 (Nat.le_of_ble_eq_true rfl) rfl ?_
          dsimp only [lset]
          refine r_iload_n (pc := 49) dX12_named_49 rfl ?_
          refine r_if_ne (pc := 50) 67 dX12_named_50 (by decide) (fun c50 => ?_) (fun c50 => ?_)
          · skip
            first
            | exact absurd rfl c50
            | skip
              refine r_aload_n (pc := 67) dX12_named_67 rfl ?_
              refine r_dup (pc := 68) dX12_named_68 rfl ?_
              refine r_getf (pc := 69) (k := 11) dX12_named_69 hX12 eX12 (by decide) fX12_132 (fun _ q => mo hm q) rfl ?_
              rw [q.2.1]
              refine r_iconst (pc := 72) (v := 1) dX12_named_72 (by decide) ?_
              refine r_iadd (pc := 73) dX12_named_73 ?_
              rw [nI_1]
              refine r_mp (pc := 74) (k := 11) hm dX12_named_74 fX12_132 (by decide) rfl rfl (fun _ _ => rfl) (fun _ _ => rfl) rfl ?_
              refine r_iload_n (pc := 77) dX12_named_77 rfl ?_
              refine r_if_eq (pc := 78) 88 dX12_named_78 (by decide) (fun c78 => ?_) (fun c78 => ?_)
              · skip
                first
                | exact absurd c78 (by decide)
                | skip
                  refine r_iload_n (pc := 88) dX12_named_88 rfl ?_
                  refine r_if_eq (pc := 89) 99 dX12_named_89 (by decide) (fun c89 => ?_) (fun c89 => ?_)
                  · skip
                    first
                    | exact absurd c89 (by decide)
                    | skip
                      refine r_aload_n (pc := 99) dX12_named_99 rfl ?_
                      refine r_getf (pc := 100) (k := 16) dX12_named_100 hX12 eX12 (by decide) fX12_150 (fun _ q => mo hm q) rfl ?_
                      refine r_ireturn (pc := 103) (ty := .int) dX12_named_103 rfl rfl ⟨Nat.zero_le _, Nat.zero_le _⟩ (fun gE hg => ?_)
                      first
                      | exact fin _ 0 (hn.trans (if_pos c3)) (by decide) q.2.2.2.2.1.symm gE hg
                      | exact fin _ 1 (hn.trans ((if_neg c3).trans (if_pos c15))) (by decide) q.2.2.2.2.2.1.symm gE hg
                      | exact fin _ 2 (hn.trans ((if_neg c3).trans ((if_neg c15).trans (if_pos (c39.trans hU.symm))))) (by decide) q.2.2.2.2.2.2.1.symm gE hg
                  · skip
                    first
                    | exact absurd rfl c89
                    | skip
                      refine r_aload_n (pc := 92) dX12_named_92 rfl ?_
                      refine r_getf (pc := 93) (k := 15) dX12_named_93 hX12 eX12 (by decide) fX12_147 (fun _ q => mo hm q) rfl ?_
                      refine r_goto (pc := 96) 103 dX12_named_96 (by decide) ?_
                      refine r_ireturn (pc := 103) (ty := .int) dX12_named_103 rfl rfl ⟨Nat.zero_le _, Nat.zero_le _⟩ (fun gE hg => ?_)
                      first
                      | exact fin _ 0 (hn.trans (if_pos c3)) (by decide) q.2.2.2.2.1.symm gE hg
                      | exact fin _ 1 (hn.trans ((if_neg c3).trans (if_pos c15))) (by decide) q.2.2.2.2.2.1.symm gE hg
                      | exact fin _ 2 (hn.trans ((if_neg c3).trans ((if_neg c15).trans (if_pos (c39.trans hU.symm))))) (by decide) q.2.2.2.2.2.2.1.symm gE hg
              · skip
                first
                | exact absurd rfl c78
                | skip
                  refine r_aload_n (pc := 81) dX12_named_81 rfl ?_
                  refine r_getf (pc := 82) (k := 14) dX12_named_82 hX12 eX12 (by decide) fX12_144 (fun _ q => mo hm q) rfl ?_
                  refine r_goto (pc := 85) 103 dX12_named_85 (by decide) ?_
                  refine r_ireturn (pc := 103) (ty := .int) dX12_named_103 rfl rfl ⟨Nat.zero_le _, Nat.zero_le _⟩ (fun gE hg => ?_)
                  first
                  | exact fin _ 0 (hn.trans (if_pos c3)) (by decide) q.2.2.2.2.1.symm gE hg
                  | exact fin _ 1 (hn.trans ((if_neg c3).trans (if_pos c15))) (by decide) q.2.2.2.2.2.1.symm gE hg
                  | exact fin _ 2 (hn.trans ((if_neg c3).trans ((if_neg c15).trans (if_pos (c39.trans hU.symm))))) (by decide) q.2.2.2.2.2.2.1.symm gE hg
          · skip
            first
            | exact absurd c50 (by decide)
            | skip
              refine r_iload_n (pc := 53) dX12_named_53 rfl ?_
              refine r_if_ne (pc := 54) 67 dX12_named_54 (by decide) (fun c54 => ?_) (fun c54 => ?_)
              · skip
                first
                | exact absurd rfl c54
                | skip
                  refine r_aload_n (pc := 67) dX12_named_67 rfl ?_
                  refine r_dup (pc := 68) dX12_named_68 rfl ?_
                  refine r_getf (pc := 69) (k := 11) dX12_named_69 hX12 eX12 (by decide) fX12_132 (fun _ q => mo hm q) rfl ?_
                  rw [q.2.1]
                  refine r_iconst (pc := 72) (v := 1) dX12_named_72 (by decide) ?_
                  refine r_iadd (pc := 73) dX12_named_73 ?_
                  rw [nI_1]
                  refine r_mp (pc := 74) (k := 11) hm dX12_named_74 fX12_132 (by decide) rfl rfl (fun _ _ => rfl) (fun _ _ => rfl) rfl ?_
                  refine r_iload_n (pc := 77) dX12_named_77 rfl ?_
                  refine r_if_eq (pc := 78) 88 dX12_named_78 (by decide) (fun c78 => ?_) (fun c78 => ?_)
                  · skip
                    first
                    | exact absurd c78 (by decide)
                    | skip
                      refine r_iload_n (pc := 88) dX12_named_88 rfl ?_
                      refine r_if_eq (pc := 89) 99 dX12_named_89 (by decide) (fun c89 => ?_) (fun c89 => ?_)
                      · skip
                        first
                        | exact absurd c89 (by decide)
                        | skip
                          refine r_aload_n (pc := 99) dX12_named_99 rfl ?_
                          refine r_getf (pc := 100) (k := 16) dX12_named_100 hX12 eX12 (by decide) fX12_150 (fun _ q => mo hm q) rfl ?_
                          refine r_ireturn (pc := 103) (ty := .int) dX12_named_103 rfl rfl ⟨Nat.zero_le _, Nat.zero_le _⟩ (fun gE hg => ?_)
                          first
                          | exact fin _ 0 (hn.trans (if_pos c3)) (by decide) q.2.2.2.2.1.symm gE hg
                          | exact fin _ 1 (hn.trans ((if_neg c3).trans (if_pos c15))) (by decide) q.2.2.2.2.2.1.symm gE hg
                          | exact fin _ 2 (hn.trans ((if_neg c3).trans ((if_neg c15).trans (if_pos (c39.trans hU.symm))))) (by decide) q.2.2.2.2.2.2.1.symm gE hg
                      · skip
                        first
                        | exact absurd rfl c89
                        | skip
                          refine r_aload_n (pc := 92) dX12_named_92 rfl ?_
                          refine r_getf (pc := 93) (k := 15) dX12_named_93 hX12 eX12 (by decide) fX12_147 (fun _ q => mo hm q) rfl ?_
                          refine r_goto (pc := 96) 103 dX12_named_96 (by decide) ?_
                          refine r_ireturn (pc := 103) (ty := .int) dX12_named_103 rfl rfl ⟨Nat.zero_le _, Nat.zero_le _⟩ (fun gE hg => ?_)
                          first
                          | exact fin _ 0 (hn.trans (if_pos c3)) (by decide) q.2.2.2.2.1.symm gE hg
                          | exact fin _ 1 (hn.trans ((if_neg c3).trans (if_pos c15))) (by decide) q.2.2.2.2.2.1.symm gE hg
                          | exact fin _ 2 (hn.trans ((if_neg c3).trans ((if_neg c15).trans (if_pos (c39.trans hU.symm))))) (by decide) q.2.2.2.2.2.2.1.symm gE hg
                  · skip
                    first
                    | exact absurd rfl c78
                    | skip
                      refine r_aload_n (pc := 81) dX12_named_81 rfl ?_
                      refine r_getf (pc := 82) (k := 14) dX12_named_82 hX12 eX12 (by decide) fX12_144 (fun _ q => mo hm q) rfl ?_
                      refine r_goto (pc := 85) 103 dX12_named_85 (by decide) ?_
                      refine r_ireturn (pc := 103) (ty := .int) dX12_named_103 rfl rfl ⟨Nat.zero_le _, Nat.zero_le _⟩ (fun gE hg => ?_)
                      first
                      | exact fin _ 0 (hn.trans (if_pos c3)) (by decide) q.2.2.2.2.1.symm gE hg
                      | exact fin _ 1 (hn.trans ((if_neg c3).trans (if_pos c15))) (by decide) q.2.2.2.2.2.1.symm gE hg
                      | exact fin _ 2 (hn.trans ((if_neg c3).trans ((if_neg c15).trans (if_pos (c39.trans hU.symm))))) (by decide) q.2.2.2.2.2.2.1.symm gE hg
              · skip
                first
                | exact absurd c54 (by decide)
                | skip
                  refine r_iload (pc := 57) dX12_named_57 rfl ?_
                  refine r_if_ne (pc := 59) 67 dX12_named_59 (by decide) (fun c59 => ?_) (fun c59 => ?_)
                  · skip
                    first
                    | exact absurd rfl c59
                    | skip
                      refine r_aload_n (pc := 67) dX12_named_67 rfl ?_
                      refine r_dup (pc := 68) dX12_named_68 rfl ?_
                      refine r_getf (pc := 69) (k := 11) dX12_named_69 hX12 eX12 (by decide) fX12_132 (fun _ q => mo hm q) rfl ?_
                      rw [q.2.1]
                      refine r_iconst (pc := 72) (v := 1) dX12_named_72 (by decide) ?_
                      refine r_iadd (pc := 73) dX12_named_73 ?_
                      rw [nI_1]
                      refine r_mp (pc := 74) (k := 11) hm dX12_named_74 fX12_132 (by decide) rfl rfl (fun _ _ => rfl) (fun _ _ => rfl) rfl ?_
                      refine r_iload_n (pc := 77) dX12_named_77 rfl ?_
                      refine r_if_eq (pc := 78) 88 dX12_named_78 (by decide) (fun c78 => ?_) (fun c78 => ?_)
                      · skip
                        first
                        | exact absurd c78 (by decide)
                        | skip
                          refine r_iload_n (pc := 88) dX12_named_88 rfl ?_
                          refine r_if_eq (pc := 89) 99 dX12_named_89 (by decide) (fun c89 => ?_) (fun c89 => ?_)
                          · skip
                            first
                            | exact absurd c89 (by decide)
                            | skip
                              refine r_aload_n (pc := 99) dX12_named_99 rfl ?_
                              refine r_getf (pc := 100) (k := 16) dX12_named_100 hX12 eX12 (by decide) fX12_150 (fun _ q => mo hm q) rfl ?_
                              refine r_ireturn (pc := 103) (ty := .int) dX12_named_103 rfl rfl ⟨Nat.zero_le _, Nat.zero_le _⟩ (fun gE hg => ?_)
                              first
                              | exact fin _ 0 (hn.trans (if_pos c3)) (by decide) q.2.2.2.2.1.symm gE hg
                              | exact fin _ 1 (hn.trans ((if_neg c3).trans (if_pos c15))) (by decide) q.2.2.2.2.2.1.symm gE hg
                              | exact fin _ 2 (hn.trans ((if_neg c3).trans ((if_neg c15).trans (if_pos (c39.trans hU.symm))))) (by decide) q.2.2.2.2.2.2.1.symm gE hg
                          · skip
                            first
                            | exact absurd rfl c89
                            | skip
                              refine r_aload_n (pc := 92) dX12_named_92 rfl ?_
                              refine r_getf (pc := 93) (k := 15) dX12_named_93 hX12 eX12 (by decide) fX12_147 (fun _ q => mo hm q) rfl ?_
                              refine r_goto (pc := 96) 103 dX12_named_96 (by decide) ?_
                              refine r_ireturn (pc := 103) (ty := .int) dX12_named_103 rfl rfl ⟨Nat.zero_le _, Nat.zero_le _⟩ (fun gE hg => ?_)
                              first
                              | exact fin _ 0 (hn.trans (if_pos c3)) (by decide) q.2.2.2.2.1.symm gE hg
                              | exact fin _ 1 (hn.trans ((if_neg c3).trans (if_pos c15))) (by decide) q.2.2.2.2.2.1.symm gE hg
                              | exact fin _ 2 (hn.trans ((if_neg c3).trans ((if_neg c15).trans (if_pos (c39.trans hU.symm))))) (by decide) q.2.2.2.2.2.2.1.symm gE hg
                      · skip
                        first
                        | exact absurd rfl c78
                        | skip
                          refine r_aload_n (pc := 81) dX12_named_81 rfl ?_
                          refine r_getf (pc := 82) (k := 14) dX12_named_82 hX12 eX12 (by decide) fX12_144 (fun _ q => mo hm q) rfl ?_
                          refine r_goto (pc := 85) 103 dX12_named_85 (by decide) ?_
                          refine r_ireturn (pc := 103) (ty := .int) dX12_named_103 rfl rfl ⟨Nat.zero_le _, Nat.zero_le _⟩ (fun gE hg => ?_)
                          first
                          | exact fin _ 0 (hn.trans (if_pos c3)) (by decide) q.2.2.2.2.1.symm gE hg
                          | exact fin _ 1 (hn.trans ((if_neg c3).trans (if_pos c15))) (by decide) q.2.2.2.2.2.1.symm gE hg
                          | exact fin _ 2 (hn.trans ((if_neg c3).trans ((if_neg c15).trans (if_pos (c39.trans hU.symm))))) (by decide) q.2.2.2.2.2.2.1.symm gE hg
                  · skip
                    first
                    | exact absurd c59 (by decide)
                    | skip
                      refine r_aload_n (pc := 62) dX12_named_62 rfl ?_
                      refine r_Vi (pc := 63) (μ' := mX12_fails) dX12_named_63 nX12_141 iX12_fails vX12_fails kX12_fails rfl rfl (rr (by decide) rfl) rfl ⟨Nat.zero_le _, Nat.zero_le _⟩ (fun _ q_ => cvq q_ (ct_M_fails hm)) ?_
                      refine r_ireturn (pc := 66) (ty := .int) dX12_named_66 rfl rfl ⟨Nat.zero_le _, Nat.zero_le _⟩ (fun gE hg => ?_)
                      have e1 : nameI (nI u) c = -1 := hn.trans ((if_neg c3).trans ((if_neg c15).trans (if_neg (fun x => c39 (x.trans hU)))))
                      rw [e1, if_neg (by decide), if_neg (by decide), if_neg (by decide), if_neg (by decide)]
                      exact ⟨rfl, _, ⟨q.fl, (sFr.rf s).up (by omega)⟩, hg⟩
      · skip
        have hU : (if nI u = 0 then (104 : Int32) else 119) = 104 := if_pos c29
        refine r_bipush (pc := 32) (v := 104) dX12_named_32 (by decide) ?_
        refine r_goto (pc := 34) 39 dX12_named_34 (by decide) ?_
        refine r_icmp_ne (pc := 39) 46 dX12_named_39 (by decide) (fun c39 => ?_) (fun c39 => ?_)
        · skip
          refine r_iconst (pc := 46) (v := 0) dX12_named_46 (by decide) ?_
          refine r_istore (pc := 47) dX12_named_47 (Nat.le_of_ble_eq_true rfl) rfl ?_
          dsimp only [lset]
          refine r_iload_n (pc := 49) dX12_named_49 rfl ?_
          refine r_if_ne (pc := 50) 67 dX12_named_50 (by decide) (fun c50 => ?_) (fun c50 => ?_)
          · skip
            first
            | exact absurd rfl c50
            | skip
              refine r_aload_n (pc := 67) dX12_named_67 rfl ?_
              refine r_dup (pc := 68) dX12_named_68 rfl ?_
              refine r_getf (pc := 69) (k := 11) dX12_named_69 hX12 eX12 (by decide) fX12_132 (fun _ q => mo hm q) rfl ?_
              rw [q.2.1]
              refine r_iconst (pc := 72) (v := 1) dX12_named_72 (by decide) ?_
              refine r_iadd (pc := 73) dX12_named_73 ?_
              rw [nI_1]
              refine r_mp (pc := 74) (k := 11) hm dX12_named_74 fX12_132 (by decide) rfl rfl (fun _ _ => rfl) (fun _ _ => rfl) rfl ?_
              refine r_iload_n (pc := 77) dX12_named_77 rfl ?_
              refine r_if_eq (pc := 78) 88 dX12_named_78 (by decide) (fun c78 => ?_) (fun c78 => ?_)
              · skip
                first
                | exact absurd c78 (by decide)
                | skip
                  refine r_iload_n (pc := 88) dX12_named_88 rfl ?_
                  refine r_if_eq (pc := 89) 99 dX12_named_89 (by decide) (fun c89 => ?_) (fun c89 => ?_)
                  · skip
                    first
                    | exact absurd c89 (by decide)
                    | skip
                      refine r_aload_n (pc := 99) dX12_named_99 rfl ?_
                      refine r_getf (pc := 100) (k := 16) dX12_named_100 hX12 eX12 (by decide) fX12_150 (fun _ q => mo hm q) rfl ?_
                      refine r_ireturn (pc := 103) (ty := .int) dX12_named_103 rfl rfl ⟨Nat.zero_le _, Nat.zero_le _⟩ (fun gE hg => ?_)
                      first
                      | exact fin _ 0 (hn.trans (if_pos c3)) (by decide) q.2.2.2.2.1.symm gE hg
                      | exact fin _ 1 (hn.trans ((if_neg c3).trans (if_pos c15))) (by decide) q.2.2.2.2.2.1.symm gE hg
                      | exact fin _ 2 (hn.trans ((if_neg c3).trans ((if_neg c15).trans (if_pos (c39.trans hU.symm))))) (by decide) q.2.2.2.2.2.2.1.symm gE hg
                  · skip
                    first
                    | exact absurd rfl c89
                    | skip
                      refine r_aload_n (pc := 92) dX12_named_92 rfl ?_
                      refine r_getf (pc := 93) (k := 15) dX12_named_93 hX12 eX12 (by decide) fX12_147 (fun _ q => mo hm q) rfl ?_
                      refine r_goto (pc := 96) 103 dX12_named_96 (by decide) ?_
                      refine r_ireturn (pc := 103) (ty := .int) dX12_named_103 rfl rfl ⟨Nat.zero_le _, Nat.zero_le _⟩ (fun gE hg => ?_)
                      first
                      | exact fin _ 0 (hn.trans (if_pos c3)) (by decide) q.2.2.2.2.1.symm gE hg
                      | exact fin _ 1 (hn.trans ((if_neg c3).trans (if_pos c15))) (by decide) q.2.2.2.2.2.1.symm gE hg
                      | exact fin _ 2 (hn.trans ((if_neg c3).trans ((if_neg c15).trans (if_pos (c39.trans hU.symm))))) (by decide) q.2.2.2.2.2.2.1.symm gE hg
              · skip
                first
                | exact absurd rfl c78
                | skip
                  refine r_aload_n (pc := 81) dX12_named_81 rfl ?_
                  refine r_getf (pc := 82) (k := 14) dX12_named_82 hX12 eX12 (by decide) fX12_144 (fun _ q => mo hm q) rfl ?_
                  refine r_goto (pc := 85) 103 dX12_named_85 (by decide) ?_
                  refine r_ireturn (pc := 103) (ty := .int) dX12_named_103 rfl rfl ⟨Nat.zero_le _, Nat.zero_le _⟩ (fun gE hg => ?_)
                  first
                  | exact fin _ 0 (hn.trans (if_pos c3)) (by decide) q.2.2.2.2.1.symm gE hg
                  | exact fin _ 1 (hn.trans ((if_neg c3).trans (if_pos c15))) (by decide) q.2.2.2.2.2.1.symm gE hg
                  | exact fin _ 2 (hn.trans ((if_neg c3).trans ((if_neg c15).trans (if_pos (c39.trans hU.symm))))) (by decide) q.2.2.2.2.2.2.1.symm gE hg
          · skip
            first
            | exact absurd c50 (by decide)
            | skip
              refine r_iload_n (pc := 53) dX12_named_53 rfl ?_
              refine r_if_ne (pc := 54) 67 dX12_named_54 (by decide) (fun c54 => ?_) (fun c54 => ?_)
              · skip
                first
                | exact absurd rfl c54
                | skip
                  refine r_aload_n (pc := 67) dX12_named_67 rfl ?_
                  refine r_dup (pc := 68) dX12_named_68 rfl ?_
                  refine r_getf (pc := 69) (k := 11) dX12_named_69 hX12 eX12 (by decide) fX12_132 (fun _ q => mo hm q) rfl ?_
                  rw [q.2.1]
                  refine r_iconst (pc := 72) (v := 1) dX12_named_72 (by decide) ?_
                  refine r_iadd (pc := 73) dX12_named_73 ?_
                  rw [nI_1]
                  refine r_mp (pc := 74) (k := 11) hm dX12_named_74 fX12_132 (by decide) rfl rfl (fun _ _ => rfl) (fun _ _ => rfl) rfl ?_
                  refine r_iload_n (pc := 77) dX12_named_77 rfl ?_
                  refine r_if_eq (pc := 78) 88 dX12_named_78 (by decide) (fun c78 => ?_) (fun c78 => ?_)
                  · skip
                    first
                    | exact absurd c78 (by decide)
                    | skip
                      refine r_iload_n (pc := 88) dX12_named_88 rfl ?_
                      refine r_if_eq (pc := 89) 99 dX12_named_89 (by decide) (fun c89 => ?_) (fun c89 => ?_)
                      · skip
                        first
                        | exact absurd c89 (by decide)
                        | skip
                          refine r_aload_n (pc := 99) dX12_named_99 rfl ?_
                          refine r_getf (pc := 100) (k := 16) dX12_named_100 hX12 eX12 (by decide) fX12_150 (fun _ q => mo hm q) rfl ?_
                          refine r_ireturn (pc := 103) (ty := .int) dX12_named_103 rfl rfl ⟨Nat.zero_le _, Nat.zero_le _⟩ (fun gE hg => ?_)
                          first
                          | exact fin _ 0 (hn.trans (if_pos c3)) (by decide) q.2.2.2.2.1.symm gE hg
                          | exact fin _ 1 (hn.trans ((if_neg c3).trans (if_pos c15))) (by decide) q.2.2.2.2.2.1.symm gE hg
                          | exact fin _ 2 (hn.trans ((if_neg c3).trans ((if_neg c15).trans (if_pos (c39.trans hU.symm))))) (by decide) q.2.2.2.2.2.2.1.symm gE hg
                      · skip
                        first
                        | exact absurd rfl c89
                        | skip
                          refine r_aload_n (pc := 92) dX12_named_92 rfl ?_
                          refine r_getf (pc := 93) (k := 15) dX12_named_93 hX12 eX12 (by decide) fX12_147 (fun _ q => mo hm q) rfl ?_
                          refine r_goto (pc := 96) 103 dX12_named_96 (by decide) ?_
                          refine r_ireturn (pc := 103) (ty := .int) dX12_named_103 rfl rfl ⟨Nat.zero_le _, Nat.zero_le _⟩ (fun gE hg => ?_)
                          first
                          | exact fin _ 0 (hn.trans (if_pos c3)) (by decide) q.2.2.2.2.1.symm gE hg
                          | exact fin _ 1 (hn.trans ((if_neg c3).trans (if_pos c15))) (by decide) q.2.2.2.2.2.1.symm gE hg
                          | exact fin _ 2 (hn.trans ((if_neg c3).trans ((if_neg c15).trans (if_pos (c39.trans hU.symm))))) (by decide) q.2.2.2.2.2.2.1.symm gE hg
                  · skip
                    first
                    | exact absurd rfl c78
                    | skip
                      refine r_aload_n (pc := 81) dX12_named_81 rfl ?_
                      refine r_getf (pc := 82) (k := 14) dX12_named_82 hX12 eX12 (by decide) fX12_144 (fun _ q => mo hm q) rfl ?_
                      refine r_goto (pc := 85) 103 dX12_named_85 (by decide) ?_
                      refine r_ireturn (pc := 103) (ty := .int) dX12_named_103 rfl rfl ⟨Nat.zero_le _, Nat.zero_le _⟩ (fun gE hg => ?_)
                      first
                      | exact fin _ 0 (hn.trans (if_pos c3)) (by decide) q.2.2.2.2.1.symm gE hg
                      | exact fin _ 1 (hn.trans ((if_neg c3).trans (if_pos c15))) (by decide) q.2.2.2.2.2.1.symm gE hg
                      | exact fin _ 2 (hn.trans ((if_neg c3).trans ((if_neg c15).trans (if_pos (c39.trans hU.symm))))) (by decide) q.2.2.2.2.2.2.1.symm gE hg
              · skip
                first
                | exact absurd c54 (by decide)
                | skip
                  refine r_iload (pc := 57) dX12_named_57 rfl ?_
                  refine r_if_ne (pc := 59) 67 dX12_named_59 (by decide) (fun c59 => ?_) (fun c59 => ?_)
                  · skip
                    first
                    | exact absurd rfl c59
                    | skip
                      refine r_aload_n (pc := 67) dX12_named_67 rfl ?_
                      refine r_dup (pc := 68) dX12_named_68 rfl ?_
                      refine r_getf (pc := 69) (k := 11) dX12_named_69 hX12 eX12 (by decide) fX12_132 (fun _ q => mo hm q) rfl ?_
                      rw [q.2.1]
                      refine r_iconst (pc := 72) (v := 1) dX12_named_72 (by decide) ?_
                      refine r_iadd (pc := 73) dX12_named_73 ?_
                      rw [nI_1]
                      refine r_mp (pc := 74) (k := 11) hm dX12_named_74 fX12_132 (by decide) rfl rfl (fun _ _ => rfl) (fun _ _ => rfl) rfl ?_
                      refine r_iload_n (pc := 77) dX12_named_77 rfl ?_
                      refine r_if_eq (pc := 78) 88 dX12_named_78 (by decide) (fun c78 => ?_) (fun c78 => ?_)
                      · skip
                        first
                        | exact absurd c78 (by decide)
                        | skip
                          refine r_iload_n (pc := 88) dX12_named_88 rfl ?_
                          refine r_if_eq (pc := 89) 99 dX12_named_89 (by decide) (fun c89 => ?_) (fun c89 => ?_)
                          · skip
                            first
                            | exact absurd c89 (by decide)
                            | skip
                              refine r_aload_n (pc := 99) dX12_named_99 rfl ?_
                              refine r_getf (pc := 100) (k := 16) dX12_named_100 hX12 eX12 (by decide) fX12_150 (fun _ q => mo hm q) rfl ?_
                              refine r_ireturn (pc := 103) (ty := .int) dX12_named_103 rfl rfl ⟨Nat.zero_le _, Nat.zero_le _⟩ (fun gE hg => ?_)
                              first
                              | exact fin _ 0 (hn.trans (if_pos c3)) (by decide) q.2.2.2.2.1.symm gE hg
                              | exact fin _ 1 (hn.trans ((if_neg c3).trans (if_pos c15))) (by decide) q.2.2.2.2.2.1.symm gE hg
                              | exact fin _ 2 (hn.trans ((if_neg c3).trans ((if_neg c15).trans (if_pos (c39.trans hU.symm))))) (by decide) q.2.2.2.2.2.2.1.symm gE hg
                          · skip
                            first
                            | exact absurd rfl c89
                            | skip
                              refine r_aload_n (pc := 92) dX12_named_92 rfl ?_
                              refine r_getf (pc := 93) (k := 15) dX12_named_93 hX12 eX12 (by decide) fX12_147 (fun _ q => mo hm q) rfl ?_
                              refine r_goto (pc := 96) 103 dX12_named_96 (by decide) ?_
                              refine r_ireturn (pc := 103) (ty := .int) dX12_named_103 rfl rfl ⟨Nat.zero_le _, Nat.zero_le _⟩ (fun gE hg => ?_)
                              first
                              | exact fin _ 0 (hn.trans (if_pos c3)) (by decide) q.2.2.2.2.1.symm gE hg
                              | exact fin _ 1 (hn.trans ((if_neg c3).trans (if_pos c15))) (by decide) q.2.2.2.2.2.1.symm gE hg
                              | exact fin _ 2 (hn.trans ((if_neg c3).trans ((if_neg c15).trans (if_pos (c39.trans hU.symm))))) (by decide) q.2.2.2.2.2.2.1.symm gE hg
                      · skip
                        first
                        | exact absurd rfl c78
                        | skip
                          refine r_aload_n (pc := 81) dX12_named_81 rfl ?_
                          refine r_getf (pc := 82) (k := 14) dX12_named_82 hX12 eX12 (by decide) fX12_144 (fun _ q => mo hm q) rfl ?_
                          refine r_goto (pc := 85) 103 dX12_named_85 (by decide) ?_
                          refine r_ireturn (pc := 103) (ty := .int) dX12_named_103 rfl rfl ⟨Nat.zero_le _, Nat.zero_le _⟩ (fun gE hg => ?_)
                          first
                          | exact fin _ 0 (hn.trans (if_pos c3)) (by decide) q.2.2.2.2.1.symm gE hg
                          | exact fin _ 1 (hn.trans ((if_neg c3).trans (if_pos c15))) (by decide) q.2.2.2.2.2.1.symm gE hg
                          | exact fin _ 2 (hn.trans ((if_neg c3).trans ((if_neg c15).trans (if_pos (c39.trans hU.symm))))) (by decide) q.2.2.2.2.2.2.1.symm gE hg
                  · skip
                    first
                    | exact absurd c59 (by decide)
                    | skip
                      refine r_aload_n (pc := 62) dX12_named_62 rfl ?_
                      refine r_Vi (pc := 63) (μ' := mX12_fails) dX12_named_63 nX12_141 iX12_fails vX12_fails kX12_fails rfl rfl (rr (by decide) rfl) rfl ⟨Nat.zero_le _, Nat.zero_le _⟩ (fun _ q_ => cvq q_ (ct_M_fails hm)) ?_
                      refine r_ireturn (pc := 66) (ty := .int) dX12_named_66 rfl rfl ⟨Nat.zero_le _, Nat.zero_le _⟩ (fun gE hg => ?_)
                      have e1 : nameI (nI u) c = -1 := hn.trans ((if_neg c3).trans ((if_neg c15).trans (if_neg (fun x => c39 (x.trans hU)))))
                      rw [e1, if_neg (by decide), if_neg (by decide), if_neg (by decide), if_neg (by decide)]
                      exact ⟨rfl, _, ⟨q.fl, (sFr.rf s).up (by omega)⟩, hg⟩
        · skip
          refine r_iconst (pc := 42) (v := 1) dX12_named_42 (by decide) ?_
          refine r_goto (pc := 43) 47 dX12_named_43 (by decide) ?_
          refine r_istore (pc := 47) dX12_named_47 (Nat.le_of_ble_eq_true rfl) rfl ?_
          dsimp only [lset]
          refine r_iload_n (pc := 49) dX12_named_49 rfl ?_
          refine r_if_ne (pc := 50) 67 dX12_named_50 (by decide) (fun c50 => ?_) (fun c50 => ?_)
          · skip
            first
            | exact absurd rfl c50
            | skip
              refine r_aload_n (pc := 67) dX12_named_67 rfl ?_
              refine r_dup (pc := 68) dX12_named_68 rfl ?_
              refine r_getf (pc := 69) (k := 11) dX12_named_69 hX12 eX12 (by decide) fX12_132 (fun _ q => mo hm q) rfl ?_
              rw [q.2.1]
              refine r_iconst (pc := 72) (v := 1) dX12_named_72 (by decide) ?_
              refine r_iadd (pc := 73) dX12_named_73 ?_
              rw [nI_1]
              refine r_mp (pc := 74) (k := 11) hm dX12_named_74 fX12_132 (by decide) rfl rfl (fun _ _ => rfl) (fun _ _ => rfl) rfl ?_
              refine r_iload_n (pc := 77) dX12_named_77 rfl ?_
              refine r_if_eq (pc := 78) 88 dX12_named_78 (by decide) (fun c78 => ?_) (fun c78 => ?_)
              · skip
                first
                | exact absurd c78 (by decide)
                | skip
                  refine r_iload_n (pc := 88) dX12_named_88 rfl ?_
                  refine r_if_eq (pc := 89) 99 dX12_named_89 (by decide) (fun c89 => ?_) (fun c89 => ?_)
                  · skip
                    first
                    | exact absurd c89 (by decide)
                    | skip
                      refine r_aload_n (pc := 99) dX12_named_99 rfl ?_
                      refine r_getf (pc := 100) (k := 16) dX12_named_100 hX12 eX12 (by decide) fX12_150 (fun _ q => mo hm q) rfl ?_
                      refine r_ireturn (pc := 103) (ty := .int) dX12_named_103 rfl rfl ⟨Nat.zero_le _, Nat.zero_le _⟩ (fun gE hg => ?_)
                      first
                      | exact fin _ 0 (hn.trans (if_pos c3)) (by decide) q.2.2.2.2.1.symm gE hg
                      | exact fin _ 1 (hn.trans ((if_neg c3).trans (if_pos c15))) (by decide) q.2.2.2.2.2.1.symm gE hg
                      | exact fin _ 2 (hn.trans ((if_neg c3).trans ((if_neg c15).trans (if_pos (c39.trans hU.symm))))) (by decide) q.2.2.2.2.2.2.1.symm gE hg
                  · skip
                    first
                    | exact absurd rfl c89
                    | skip
                      refine r_aload_n (pc := 92) dX12_named_92 rfl ?_
                      refine r_getf (pc := 93) (k := 15) dX12_named_93 hX12 eX12 (by decide) fX12_147 (fun _ q => mo hm q) rfl ?_
                      refine r_goto (pc := 96) 103 dX12_named_96 (by decide) ?_
                      refine r_ireturn (pc := 103) (ty := .int) dX12_named_103 rfl rfl ⟨Nat.zero_le _, Nat.zero_le _⟩ (fun gE hg => ?_)
                      first
                      | exact fin _ 0 (hn.trans (if_pos c3)) (by decide) q.2.2.2.2.1.symm gE hg
                      | exact fin _ 1 (hn.trans ((if_neg c3).trans (if_pos c15))) (by decide) q.2.2.2.2.2.1.symm gE hg
                      | exact fin _ 2 (hn.trans ((if_neg c3).trans ((if_neg c15).trans (if_pos (c39.trans hU.symm))))) (by decide) q.2.2.2.2.2.2.1.symm gE hg
              · skip
                first
                | exact absurd rfl c78
                | skip
                  refine r_aload_n (pc := 81) dX12_named_81 rfl ?_
                  refine r_getf (pc := 82) (k := 14) dX12_named_82 hX12 eX12 (by decide) fX12_144 (fun _ q => mo hm q) rfl ?_
                  refine r_goto (pc := 85) 103 dX12_named_85 (by decide) ?_
                  refine r_ireturn (pc := 103) (ty := .int) dX12_named_103 rfl rfl ⟨Nat.zero_le _, Nat.zero_le _⟩ (fun gE hg => ?_)
                  first
                  | exact fin _ 0 (hn.trans (if_pos c3)) (by decide) q.2.2.2.2.1.symm gE hg
                  | exact fin _ 1 (hn.trans ((if_neg c3).trans (if_pos c15))) (by decide) q.2.2.2.2.2.1.symm gE hg
                  | exact fin _ 2 (hn.trans ((if_neg c3).trans ((if_neg c15).trans (if_pos (c39.trans hU.symm))))) (by decide) q.2.2.2.2.2.2.1.symm gE hg
          · skip
            first
            | exact absurd c50 (by decide)
            | skip
              refine r_iload_n (pc := 53) dX12_named_53 rfl ?_
              refine r_if_ne (pc := 54) 67 dX12_named_54 (by decide) (fun c54 => ?_) (fun c54 => ?_)
              · skip
                first
                | exact absurd rfl c54
                | skip
                  refine r_aload_n (pc := 67) dX12_named_67 rfl ?_
                  refine r_dup (pc := 68) dX12_named_68 rfl ?_
                  refine r_getf (pc := 69) (k := 11) dX12_named_69 hX12 eX12 (by decide) fX12_132 (fun _ q => mo hm q) rfl ?_
                  rw [q.2.1]
                  refine r_iconst (pc := 72) (v := 1) dX12_named_72 (by decide) ?_
                  refine r_iadd (pc := 73) dX12_named_73 ?_
                  rw [nI_1]
                  refine r_mp (pc := 74) (k := 11) hm dX12_named_74 fX12_132 (by decide) rfl rfl (fun _ _ => rfl) (fun _ _ => rfl) rfl ?_
                  refine r_iload_n (pc := 77) dX12_named_77 rfl ?_
                  refine r_if_eq (pc := 78) 88 dX12_named_78 (by decide) (fun c78 => ?_) (fun c78 => ?_)
                  · skip
                    first
                    | exact absurd c78 (by decide)
                    | skip
                      refine r_iload_n (pc := 88) dX12_named_88 rfl ?_
                      refine r_if_eq (pc := 89) 99 dX12_named_89 (by decide) (fun c89 => ?_) (fun c89 => ?_)
                      · skip
                        first
                        | exact absurd c89 (by decide)
                        | skip
                          refine r_aload_n (pc := 99) dX12_named_99 rfl ?_
                          refine r_getf (pc := 100) (k := 16) dX12_named_100 hX12 eX12 (by decide) fX12_150 (fun _ q => mo hm q) rfl ?_
                          refine r_ireturn (pc := 103) (ty := .int) dX12_named_103 rfl rfl ⟨Nat.zero_le _, Nat.zero_le _⟩ (fun gE hg => ?_)
                          first
                          | exact fin _ 0 (hn.trans (if_pos c3)) (by decide) q.2.2.2.2.1.symm gE hg
                          | exact fin _ 1 (hn.trans ((if_neg c3).trans (if_pos c15))) (by decide) q.2.2.2.2.2.1.symm gE hg
                          | exact fin _ 2 (hn.trans ((if_neg c3).trans ((if_neg c15).trans (if_pos (c39.trans hU.symm))))) (by decide) q.2.2.2.2.2.2.1.symm gE hg
                      · skip
                        first
                        | exact absurd rfl c89
                        | skip
                          refine r_aload_n (pc := 92) dX12_named_92 rfl ?_
                          refine r_getf (pc := 93) (k := 15) dX12_named_93 hX12 eX12 (by decide) fX12_147 (fun _ q => mo hm q) rfl ?_
                          refine r_goto (pc := 96) 103 dX12_named_96 (by decide) ?_
                          refine r_ireturn (pc := 103) (ty := .int) dX12_named_103 rfl rfl ⟨Nat.zero_le _, Nat.zero_le _⟩ (fun gE hg => ?_)
                          first
                          | exact fin _ 0 (hn.trans (if_pos c3)) (by decide) q.2.2.2.2.1.symm gE hg
                          | exact fin _ 1 (hn.trans ((if_neg c3).trans (if_pos c15))) (by decide) q.2.2.2.2.2.1.symm gE hg
                          | exact fin _ 2 (hn.trans ((if_neg c3).trans ((if_neg c15).trans (if_pos (c39.trans hU.symm))))) (by decide) q.2.2.2.2.2.2.1.symm gE hg
                  · skip
                    first
                    | exact absurd rfl c78
                    | skip
                      refine r_aload_n (pc := 81) dX12_named_81 rfl ?_
                      refine r_getf (pc := 82) (k := 14) dX12_named_82 hX12 eX12 (by decide) fX12_144 (fun _ q => mo hm q) rfl ?_
                      refine r_goto (pc := 85) 103 dX12_named_85 (by decide) ?_
                      refine r_ireturn (pc := 103) (ty := .int) dX12_named_103 rfl rfl ⟨Nat.zero_le _, Nat.zero_le _⟩ (fun gE hg => ?_)
                      first
                      | exact fin _ 0 (hn.trans (if_pos c3)) (by decide) q.2.2.2.2.1.symm gE hg
                      | exact fin _ 1 (hn.trans ((if_neg c3).trans (if_pos c15))) (by decide) q.2.2.2.2.2.1.symm gE hg
                      | exact fin _ 2 (hn.trans ((if_neg c3).trans ((if_neg c15).trans (if_pos (c39.trans hU.symm))))) (by decide) q.2.2.2.2.2.2.1.symm gE hg
              · skip
                first
                | exact absurd c54 (by decide)
                | skip
                  refine r_iload (pc := 57) dX12_named_57 rfl ?_
                  refine r_if_ne (pc := 59) 67 dX12_named_59 (by decide) (fun c59 => ?_) (fun c59 => ?_)
                  · skip
                    first
                    | exact absurd rfl c59
                    | skip
                      refine r_aload_n (pc := 67) dX12_named_67 rfl ?_
                      refine r_dup (pc := 68) dX12_named_68 rfl ?_
                      refine r_getf (pc := 69) (k := 11) dX12_named_69 hX12 eX12 (by decide) fX12_132 (fun _ q => mo hm q) rfl ?_
                      rw [q.2.1]
                      refine r_iconst (pc := 72) (v := 1) dX12_named_72 (by decide) ?_
                      refine r_iadd (pc := 73) dX12_named_73 ?_
                      rw [nI_1]
                      refine r_mp (pc := 74) (k := 11) hm dX12_named_74 fX12_132 (by decide) rfl rfl (fun _ _ => rfl) (fun _ _ => rfl) rfl ?_
                      refine r_iload_n (pc := 77) dX12_named_77 rfl ?_
                      refine r_if_eq (pc := 78) 88 dX12_named_78 (by decide) (fun c78 => ?_) (fun c78 => ?_)
                      · skip
                        first
                        | exact absurd c78 (by decide)
                        | skip
                          refine r_iload_n (pc := 88) dX12_named_88 rfl ?_
                          refine r_if_eq (pc := 89) 99 dX12_named_89 (by decide) (fun c89 => ?_) (fun c89 => ?_)
                          · skip
                            first
                            | exact absurd c89 (by decide)
                            | skip
                              refine r_aload_n (pc := 99) dX12_named_99 rfl ?_
                              refine r_getf (pc := 100) (k := 16) dX12_named_100 hX12 eX12 (by decide) fX12_150 (fun _ q => mo hm q) rfl ?_
                              refine r_ireturn (pc := 103) (ty := .int) dX12_named_103 rfl rfl ⟨Nat.zero_le _, Nat.zero_le _⟩ (fun gE hg => ?_)
                              first
                              | exact fin _ 0 (hn.trans (if_pos c3)) (by decide) q.2.2.2.2.1.symm gE hg
                              | exact fin _ 1 (hn.trans ((if_neg c3).trans (if_pos c15))) (by decide) q.2.2.2.2.2.1.symm gE hg
                              | exact fin _ 2 (hn.trans ((if_neg c3).trans ((if_neg c15).trans (if_pos (c39.trans hU.symm))))) (by decide) q.2.2.2.2.2.2.1.symm gE hg
                          · skip
                            first
                            | exact absurd rfl c89
                            | skip
                              refine r_aload_n (pc := 92) dX12_named_92 rfl ?_
                              refine r_getf (pc := 93) (k := 15) dX12_named_93 hX12 eX12 (by decide) fX12_147 (fun _ q => mo hm q) rfl ?_
                              refine r_goto (pc := 96) 103 dX12_named_96 (by decide) ?_
                              refine r_ireturn (pc := 103) (ty := .int) dX12_named_103 rfl rfl ⟨Nat.zero_le _, Nat.zero_le _⟩ (fun gE hg => ?_)
                              first
                              | exact fin _ 0 (hn.trans (if_pos c3)) (by decide) q.2.2.2.2.1.symm gE hg
                              | exact fin _ 1 (hn.trans ((if_neg c3).trans (if_pos c15))) (by decide) q.2.2.2.2.2.1.symm gE hg
                              | exact fin _ 2 (hn.trans ((if_neg c3).trans ((if_neg c15).trans (if_pos (c39.trans hU.symm))))) (by decide) q.2.2.2.2.2.2.1.symm gE hg
                      · skip
                        first
                        | exact absurd rfl c78
                        | skip
                          refine r_aload_n (pc := 81) dX12_named_81 rfl ?_
                          refine r_getf (pc := 82) (k := 14) dX12_named_82 hX12 eX12 (by decide) fX12_144 (fun _ q => mo hm q) rfl ?_
                          refine r_goto (pc := 85) 103 dX12_named_85 (by decide) ?_
                          refine r_ireturn (pc := 103) (ty := .int) dX12_named_103 rfl rfl ⟨Nat.zero_le _, Nat.zero_le _⟩ (fun gE hg => ?_)
                          first
                          | exact fin _ 0 (hn.trans (if_pos c3)) (by decide) q.2.2.2.2.1.symm gE hg
                          | exact fin _ 1 (hn.trans ((if_neg c3).trans (if_pos c15))) (by decide) q.2.2.2.2.2.1.symm gE hg
                          | exact fin _ 2 (hn.trans ((if_neg c3).trans ((if_neg c15).trans (if_pos (c39.trans hU.symm))))) (by decide) q.2.2.2.2.2.2.1.symm gE hg
                  · skip
                    first
                    | exact absurd c59 (by decide)
                    | skip
                      refine r_aload_n (pc := 62) dX12_named_62 rfl ?_
                      refine r_Vi (pc := 63) (μ' := mX12_fails) dX12_named_63 nX12_141 iX12_fails vX12_fails kX12_fails rfl rfl (rr (by decide) rfl) rfl ⟨Nat.zero_le _, Nat.zero_le _⟩ (fun _ q_ => cvq q_ (ct_M_fails hm)) ?_
                      refine r_ireturn (pc := 66) (ty := .int) dX12_named_66 rfl rfl ⟨Nat.zero_le _, Nat.zero_le _⟩ (fun gE hg => ?_)
                      have e1 : nameI (nI u) c = -1 := hn.trans ((if_neg c3).trans ((if_neg c15).trans (if_neg (fun x => c39 (x.trans hU)))))
                      rw [e1, if_neg (by decide), if_neg (by decide), if_neg (by decide), if_neg (by decide)]
                      exact ⟨rfl, _, ⟨q.fl, (sFr.rf s).up (by omega)⟩, hg⟩
    · skip
      refine r_iconst (pc := 18) (v := 1) dX12_named_18 (by decide) ?_
      refine r_goto (pc := 19) 23 dX12_named_19 (by decide) ?_
      refine r_istore_n (pc := 23) dX12_named_23 rfl (Nat.le_of_ble_eq_true rfl) rfl ?_
      dsimp only [lset]
      refine r_iload_n (pc := 24) dX12_named_24 rfl ?_
      refine r_aload_n (pc := 25) dX12_named_25 rfl ?_
      refine r_getf (pc := 26) (k := 10) dX12_named_26 hX12 eX12 (by decide) fX12_126 (fun _ q => mo hm q) rfl ?_
      rw [q.1]
      refine r_if_ne (pc := 29) 37 dX12_named_29 (by decide) (fun c29 => ?_) (fun c29 => ?_)
      · skip
        have hU : (if nI u = 0 then (104 : Int32) else 119) = 119 := if_neg c29
        refine r_bipush (pc := 37) (v := 119) dX12_named_37 (by decide) ?_
        refine r_icmp_ne (pc := 39) 46 dX12_named_39 (by decide) (fun c39 => ?_) (fun c39 => ?_)
        · skip
          refine r_iconst (pc := 46) (v := 0) dX12_named_46 (by decide) ?_
          refine r_istore (pc := 47) dX12_named_47 (Nat.le_of_ble_eq_true rfl) rfl ?_
          dsimp only [lset]
          refine r_iload_n (pc := 49) dX12_named_49 rfl ?_
          refine r_if_ne (pc := 50) 67 dX12_named_50 (by decide) (fun c50 => ?_) (fun c50 => ?_)
          · skip
            first
            | exact absurd rfl c50
            | skip
              refine r_aload_n (pc := 67) dX12_named_67 rfl ?_
              refine r_dup (pc := 68) dX12_named_68 rfl ?_
              refine r_getf (pc := 69) (k := 11) dX12_named_69 hX12 eX12 (by decide) fX12_132 (fun _ q => mo hm q) rfl ?_
              rw [q.2.1]
              refine r_iconst (pc := 72) (v := 1) dX12_named_72 (by decide) ?_
              refine r_iadd (pc := 73) dX12_named_73 ?_
              rw [nI_1]
              refine r_mp (pc := 74) (k := 11) hm dX12_named_74 fX12_132 (by decide) rfl rfl (fun _ _ => rfl) (fun _ _ => rfl) rfl ?_
              refine r_iload_n (pc := 77) dX12_named_77 rfl ?_
              refine r_if_eq (pc := 78) 88 dX12_named_78 (by decide) (fun c78 => ?_) (fun c78 => ?_)
              · skip
                first
                | exact absurd c78 (by decide)
                | skip
                  refine r_iload_n (pc := 88) dX12_named_88 rfl ?_
                  refine r_if_eq (pc := 89) 99 dX12_named_89 (by decide) (fun c89 => ?_) (fun c89 => ?_)
                  · skip
                    first
                    | exact absurd c89 (by decide)
                    | skip
                      refine r_aload_n (pc := 99) dX12_named_99 rfl ?_
                      refine r_getf (pc := 100) (k := 16) dX12_named_100 hX12 eX12 (by decide) fX12_150 (fun _ q => mo hm q) rfl ?_
                      refine r_ireturn (pc := 103) (ty := .int) dX12_named_103 rfl rfl ⟨Nat.zero_le _, Nat.zero_le _⟩ (fun gE hg => ?_)
                      first
                      | exact fin _ 0 (hn.trans (if_pos c3)) (by decide) q.2.2.2.2.1.symm gE hg
                      | exact fin _ 1 (hn.trans ((if_neg c3).trans (if_pos c15))) (by decide) q.2.2.2.2.2.1.symm gE hg
                      | exact fin _ 2 (hn.trans ((if_neg c3).trans ((if_neg c15).trans (if_pos (c39.trans hU.symm))))) (by decide) q.2.2.2.2.2.2.1.symm gE hg
                  · skip
                    first
                    | exact absurd rfl c89
                    | skip
                      refine r_aload_n (pc := 92) dX12_named_92 rfl ?_
                      refine r_getf (pc := 93) (k := 15) dX12_named_93 hX12 eX12 (by decide) fX12_147 (fun _ q => mo hm q) rfl ?_
                      refine r_goto (pc := 96) 103 dX12_named_96 (by decide) ?_
                      refine r_ireturn (pc := 103) (ty := .int) dX12_named_103 rfl rfl ⟨Nat.zero_le _, Nat.zero_le _⟩ (fun gE hg => ?_)
                      first
                      | exact fin _ 0 (hn.trans (if_pos c3)) (by decide) q.2.2.2.2.1.symm gE hg
                      | exact fin _ 1 (hn.trans ((if_neg c3).trans (if_pos c15))) (by decide) q.2.2.2.2.2.1.symm gE hg
                      | exact fin _ 2 (hn.trans ((if_neg c3).trans ((if_neg c15).trans (if_pos (c39.trans hU.symm))))) (by decide) q.2.2.2.2.2.2.1.symm gE hg
              · skip
                first
                | exact absurd rfl c78
                | skip
                  refine r_aload_n (pc := 81) dX12_named_81 rfl ?_
                  refine r_getf (pc := 82) (k := 14) dX12_named_82 hX12 eX12 (by decide) fX12_144 (fun _ q => mo hm q) rfl ?_
                  refine r_goto (pc := 85) 103 dX12_named_85 (by decide) ?_
                  refine r_ireturn (pc := 103) (ty := .int) dX12_named_103 rfl rfl ⟨Nat.zero_le _, Nat.zero_le _⟩ (fun gE hg => ?_)
                  first
                  | exact fin _ 0 (hn.trans (if_pos c3)) (by decide) q.2.2.2.2.1.symm gE hg
                  | exact fin _ 1 (hn.trans ((if_neg c3).trans (if_pos c15))) (by decide) q.2.2.2.2.2.1.symm gE hg
                  | exact fin _ 2 (hn.trans ((if_neg c3).trans ((if_neg c15).trans (if_pos (c39.trans hU.symm))))) (by decide) q.2.2.2.2.2.2.1.symm gE hg
          · skip
            first
            | exact absurd c50 (by decide)
            | skip
              refine r_iload_n (pc := 53) dX12_named_53 rfl ?_
              refine r_if_ne (pc := 54) 67 dX12_named_54 (by decide) (fun c54 => ?_) (fun c54 => ?_)
              · skip
                first
                | exact absurd rfl c54
                | skip
                  refine r_aload_n (pc := 67) dX12_named_67 rfl ?_
                  refine r_dup (pc := 68) dX12_named_68 rfl ?_
                  refine r_getf (pc := 69) (k := 11) dX12_named_69 hX12 eX12 (by decide) fX12_132 (fun _ q => mo hm q) rfl ?_
                  rw [q.2.1]
                  refine r_iconst (pc := 72) (v := 1) dX12_named_72 (by decide) ?_
                  refine r_iadd (pc := 73) dX12_named_73 ?_
                  rw [nI_1]
                  refine r_mp (pc := 74) (k := 11) hm dX12_named_74 fX12_132 (by decide) rfl rfl (fun _ _ => rfl) (fun _ _ => rfl) rfl ?_
                  refine r_iload_n (pc := 77) dX12_named_77 rfl ?_
                  refine r_if_eq (pc := 78) 88 dX12_named_78 (by decide) (fun c78 => ?_) (fun c78 => ?_)
                  · skip
                    first
                    | exact absurd c78 (by decide)
                    | skip
                      refine r_iload_n (pc := 88) dX12_named_88 rfl ?_
                      refine r_if_eq (pc := 89) 99 dX12_named_89 (by decide) (fun c89 => ?_) (fun c89 => ?_)
                      · skip
                        first
                        | exact absurd c89 (by decide)
                        | skip
                          refine r_aload_n (pc := 99) dX12_named_99 rfl ?_
                          refine r_getf (pc := 100) (k := 16) dX12_named_100 hX12 eX12 (by decide) fX12_150 (fun _ q => mo hm q) rfl ?_
                          refine r_ireturn (pc := 103) (ty := .int) dX12_named_103 rfl rfl ⟨Nat.zero_le _, Nat.zero_le _⟩ (fun gE hg => ?_)
                          first
                          | exact fin _ 0 (hn.trans (if_pos c3)) (by decide) q.2.2.2.2.1.symm gE hg
                          | exact fin _ 1 (hn.trans ((if_neg c3).trans (if_pos c15))) (by decide) q.2.2.2.2.2.1.symm gE hg
                          | exact fin _ 2 (hn.trans ((if_neg c3).trans ((if_neg c15).trans (if_pos (c39.trans hU.symm))))) (by decide) q.2.2.2.2.2.2.1.symm gE hg
                      · skip
                        first
                        | exact absurd rfl c89
                        | skip
                          refine r_aload_n (pc := 92) dX12_named_92 rfl ?_
                          refine r_getf (pc := 93) (k := 15) dX12_named_93 hX12 eX12 (by decide) fX12_147 (fun _ q => mo hm q) rfl ?_
                          refine r_goto (pc := 96) 103 dX12_named_96 (by decide) ?_
                          refine r_ireturn (pc := 103) (ty := .int) dX12_named_103 rfl rfl ⟨Nat.zero_le _, Nat.zero_le _⟩ (fun gE hg => ?_)
                          first
                          | exact fin _ 0 (hn.trans (if_pos c3)) (by decide) q.2.2.2.2.1.symm gE hg
                          | exact fin _ 1 (hn.trans ((if_neg c3).trans (if_pos c15))) (by decide) q.2.2.2.2.2.1.symm gE hg
                          | exact fin _ 2 (hn.trans ((if_neg c3).trans ((if_neg c15).trans (if_pos (c39.trans hU.symm))))) (by decide) q.2.2.2.2.2.2.1.symm gE hg
                  · skip
                    first
                    | exact absurd rfl c78
                    | skip
                      refine r_aload_n (pc := 81) dX12_named_81 rfl ?_
                      refine r_getf (pc := 82) (k := 14) dX12_named_82 hX12 eX12 (by decide) fX12_144 (fun _ q => mo hm q) rfl ?_
                      refine r_goto (pc := 85) 103 dX12_named_85 (by decide) ?_
                      refine r_ireturn (pc := 103) (ty := .int) dX12_named_103 rfl rfl ⟨Nat.zero_le _, Nat.zero_le _⟩ (fun gE hg => ?_)
                      first
                      | exact fin _ 0 (hn.trans (if_pos c3)) (by decide) q.2.2.2.2.1.symm gE hg
                      | exact fin _ 1 (hn.trans ((if_neg c3).trans (if_pos c15))) (by decide) q.2.2.2.2.2.1.symm gE hg
                      | exact fin _ 2 (hn.trans ((if_neg c3).trans ((if_neg c15).trans (if_pos (c39.trans hU.symm))))) (by decide) q.2.2.2.2.2.2.1.symm gE hg
              · skip
                first
                | exact absurd c54 (by decide)
                | skip
                  refine r_iload (pc := 57) dX12_named_57 rfl ?_
                  refine r_if_ne (pc := 59) 67 dX12_named_59 (by decide) (fun c59 => ?_) (fun c59 => ?_)
                  · skip
                    first
                    | exact absurd rfl c59
                    | skip
                      refine r_aload_n (pc := 67) dX12_named_67 rfl ?_
                      refine r_dup (pc := 68) dX12_named_68 rfl ?_
                      refine r_getf (pc := 69) (k := 11) dX12_named_69 hX12 eX12 (by decide) fX12_132 (fun _ q => mo hm q) rfl ?_
                      rw [q.2.1]
                      refine r_iconst (pc := 72) (v := 1) dX12_named_72 (by decide) ?_
                      refine r_iadd (pc := 73) dX12_named_73 ?_
                      rw [nI_1]
                      refine r_mp (pc := 74) (k := 11) hm dX12_named_74 fX12_132 (by decide) rfl rfl (fun _ _ => rfl) (fun _ _ => rfl) rfl ?_
                      refine r_iload_n (pc := 77) dX12_named_77 rfl ?_
                      refine r_if_eq (pc := 78) 88 dX12_named_78 (by decide) (fun c78 => ?_) (fun c78 => ?_)
                      · skip
                        first
                        | exact absurd c78 (by decide)
                        | skip
                          refine r_iload_n (pc := 88) dX12_named_88 rfl ?_
                          refine r_if_eq (pc := 89) 99 dX12_named_89 (by decide) (fun c89 => ?_) (fun c89 => ?_)
                          · skip
                            first
                            | exact absurd c89 (by decide)
                            | skip
                              refine r_aload_n (pc := 99) dX12_named_99 rfl ?_
                              refine r_getf (pc := 100) (k := 16) dX12_named_100 hX12 eX12 (by decide) fX12_150 (fun _ q => mo hm q) rfl ?_
                              refine r_ireturn (pc := 103) (ty := .int) dX12_named_103 rfl rfl ⟨Nat.zero_le _, Nat.zero_le _⟩ (fun gE hg => ?_)
                              first
                              | exact fin _ 0 (hn.trans (if_pos c3)) (by decide) q.2.2.2.2.1.symm gE hg
                              | exact fin _ 1 (hn.trans ((if_neg c3).trans (if_pos c15))) (by decide) q.2.2.2.2.2.1.symm gE hg
                              | exact fin _ 2 (hn.trans ((if_neg c3).trans ((if_neg c15).trans (if_pos (c39.trans hU.symm))))) (by decide) q.2.2.2.2.2.2.1.symm gE hg
                          · skip
                            first
                            | exact absurd rfl c89
                            | skip
                              refine r_aload_n (pc := 92) dX12_named_92 rfl ?_
                              refine r_getf (pc := 93) (k := 15) dX12_named_93 hX12 eX12 (by decide) fX12_147 (fun _ q => mo hm q) rfl ?_
                              refine r_goto (pc := 96) 103 dX12_named_96 (by decide) ?_
                              refine r_ireturn (pc := 103) (ty := .int) dX12_named_103 rfl rfl ⟨Nat.zero_le _, Nat.zero_le _⟩ (fun gE hg => ?_)
                              first
                              | exact fin _ 0 (hn.trans (if_pos c3)) (by decide) q.2.2.2.2.1.symm gE hg
                              | exact fin _ 1 (hn.trans ((if_neg c3).trans (if_pos c15))) (by decide) q.2.2.2.2.2.1.symm gE hg
                              | exact fin _ 2 (hn.trans ((if_neg c3).trans ((if_neg c15).trans (if_pos (c39.trans hU.symm))))) (by decide) q.2.2.2.2.2.2.1.symm gE hg
                      · skip
                        first
                        | exact absurd rfl c78
                        | skip
                          refine r_aload_n (pc := 81) dX12_named_81 rfl ?_
                          refine r_getf (pc := 82) (k := 14) dX12_named_82 hX12 eX12 (by decide) fX12_144 (fun _ q => mo hm q) rfl ?_
                          refine r_goto (pc := 85) 103 dX12_named_85 (by decide) ?_
                          refine r_ireturn (pc := 103) (ty := .int) dX12_named_103 rfl rfl ⟨Nat.zero_le _, Nat.zero_le _⟩ (fun gE hg => ?_)
                          first
                          | exact fin _ 0 (hn.trans (if_pos c3)) (by decide) q.2.2.2.2.1.symm gE hg
                          | exact fin _ 1 (hn.trans ((if_neg c3).trans (if_pos c15))) (by decide) q.2.2.2.2.2.1.symm gE hg
                          | exact fin _ 2 (hn.trans ((if_neg c3).trans ((if_neg c15).trans (if_pos (c39.trans hU.symm))))) (by decide) q.2.2.2.2.2.2.1.symm gE hg
                  · skip
                    first
                    | exact absurd c59 (by decide)
                    | skip
                      refine r_aload_n (pc := 62) dX12_named_62 rfl ?_
                      refine r_Vi (pc := 63) (μ' := mX12_fails) dX12_named_63 nX12_141 iX12_fails vX12_fails kX12_fails rfl rfl (rr (by decide) rfl) rfl ⟨Nat.zero_le _, Nat.zero_le _⟩ (fun _ q_ => cvq q_ (ct_M_fails hm)) ?_
                      refine r_ireturn (pc := 66) (ty := .int) dX12_named_66 rfl rfl ⟨Nat.zero_le _, Nat.zero_le _⟩ (fun gE hg => ?_)
                      have e1 : nameI (nI u) c = -1 := hn.trans ((if_neg c3).trans ((if_neg c15).trans (if_neg (fun x => c39 (x.trans hU)))))
                      rw [e1, if_neg (by decide), if_neg (by decide), if_neg (by decide), if_neg (by decide)]
                      exact ⟨rfl, _, ⟨q.fl, (sFr.rf s).up (by omega)⟩, hg⟩
        · skip
          refine r_iconst (pc := 42) (v := 1) dX12_named_42 (by decide) ?_
          refine r_goto (pc := 43) 47 dX12_named_43 (by decide) ?_
          refine r_istore (pc := 47) dX12_named_47 (Nat.le_of_ble_eq_true rfl) rfl ?_
          dsimp only [lset]
          refine r_iload_n (pc := 49) dX12_named_49 rfl ?_
          refine r_if_ne (pc := 50) 67 dX12_named_50 (by decide) (fun c50 => ?_) (fun c50 => ?_)
          · skip
            first
            | exact absurd rfl c50
            | skip
              refine r_aload_n (pc := 67) dX12_named_67 rfl ?_
              refine r_dup (pc := 68) dX12_named_68 rfl ?_
              refine r_getf (pc := 69) (k := 11) dX12_named_69 hX12 eX12 (by decide) fX12_132 (fun _ q => mo hm q) rfl ?_
              rw [q.2.1]
              refine r_iconst (pc := 72) (v := 1) dX12_named_72 (by decide) ?_
              refine r_iadd (pc := 73) dX12_named_73 ?_
              rw [nI_1]
              refine r_mp (pc := 74) (k := 11) hm dX12_named_74 fX12_132 (by decide) rfl rfl (fun _ _ => rfl) (fun _ _ => rfl) rfl ?_
              refine r_iload_n (pc := 77) dX12_named_77 rfl ?_
              refine r_if_eq (pc := 78) 88 dX12_named_78 (by decide) (fun c78 => ?_) (fun c78 => ?_)
              · skip
                first
                | exact absurd c78 (by decide)
                | skip
                  refine r_iload_n (pc := 88) dX12_named_88 rfl ?_
                  refine r_if_eq (pc := 89) 99 dX12_named_89 (by decide) (fun c89 => ?_) (fun c89 => ?_)
                  · skip
                    first
                    | exact absurd c89 (by decide)
                    | skip
                      refine r_aload_n (pc := 99) dX12_named_99 rfl ?_
                      refine r_getf (pc := 100) (k := 16) dX12_named_100 hX12 eX12 (by decide) fX12_150 (fun _ q => mo hm q) rfl ?_
                      refine r_ireturn (pc := 103) (ty := .int) dX12_named_103 rfl rfl ⟨Nat.zero_le _, Nat.zero_le _⟩ (fun gE hg => ?_)
                      first
                      | exact fin _ 0 (hn.trans (if_pos c3)) (by decide) q.2.2.2.2.1.symm gE hg
                      | exact fin _ 1 (hn.trans ((if_neg c3).trans (if_pos c15))) (by decide) q.2.2.2.2.2.1.symm gE hg
                      | exact fin _ 2 (hn.trans ((if_neg c3).trans ((if_neg c15).trans (if_pos (c39.trans hU.symm))))) (by decide) q.2.2.2.2.2.2.1.symm gE hg
                  · skip
                    first
                    | exact absurd rfl c89
                    | skip
                      refine r_aload_n (pc := 92) dX12_named_92 rfl ?_
                      refine r_getf (pc := 93) (k := 15) dX12_named_93 hX12 eX12 (by decide) fX12_147 (fun _ q => mo hm q) rfl ?_
                      refine r_goto (pc := 96) 103 dX12_named_96 (by decide) ?_
                      refine r_ireturn (pc := 103) (ty := .int) dX12_named_103 rfl rfl ⟨Nat.zero_le _, Nat.zero_le _⟩ (fun gE hg => ?_)
                      first
                      | exact fin _ 0 (hn.trans (if_pos c3)) (by decide) q.2.2.2.2.1.symm gE hg
                      | exact fin _ 1 (hn.trans ((if_neg c3).trans (if_pos c15))) (by decide) q.2.2.2.2.2.1.symm gE hg
                      | exact fin _ 2 (hn.trans ((if_neg c3).trans ((if_neg c15).trans (if_pos (c39.trans hU.symm))))) (by decide) q.2.2.2.2.2.2.1.symm gE hg
              · skip
                first
                | exact absurd rfl c78
                | skip
                  refine r_aload_n (pc := 81) dX12_named_81 rfl ?_
                  refine r_getf (pc := 82) (k := 14) dX12_named_82 hX12 eX12 (by decide) fX12_144 (fun _ q => mo hm q) rfl ?_
                  refine r_goto (pc := 85) 103 dX12_named_85 (by decide) ?_
                  refine r_ireturn (pc := 103) (ty := .int) dX12_named_103 rfl rfl ⟨Nat.zero_le _, Nat.zero_le _⟩ (fun gE hg => ?_)
                  first
                  | exact fin _ 0 (hn.trans (if_pos c3)) (by decide) q.2.2.2.2.1.symm gE hg
                  | exact fin _ 1 (hn.trans ((if_neg c3).trans (if_pos c15))) (by decide) q.2.2.2.2.2.1.symm gE hg
                  | exact fin _ 2 (hn.trans ((if_neg c3).trans ((if_neg c15).trans (if_pos (c39.trans hU.symm))))) (by decide) q.2.2.2.2.2.2.1.symm gE hg
          · skip
            first
            | exact absurd c50 (by decide)
            | skip
              refine r_iload_n (pc := 53) dX12_named_53 rfl ?_
              refine r_if_ne (pc := 54) 67 dX12_named_54 (by decide) (fun c54 => ?_) (fun c54 => ?_)
              · skip
                first
                | exact absurd rfl c54
                | skip
                  refine r_aload_n (pc := 67) dX12_named_67 rfl ?_
                  refine r_dup (pc := 68) dX12_named_68 rfl ?_
                  refine r_getf (pc := 69) (k := 11) dX12_named_69 hX12 eX12 (by decide) fX12_132 (fun _ q => mo hm q) rfl ?_
                  rw [q.2.1]
                  refine r_iconst (pc := 72) (v := 1) dX12_named_72 (by decide) ?_
                  refine r_iadd (pc := 73) dX12_named_73 ?_
                  rw [nI_1]
                  refine r_mp (pc := 74) (k := 11) hm dX12_named_74 fX12_132 (by decide) rfl rfl (fun _ _ => rfl) (fun _ _ => rfl) rfl ?_
                  refine r_iload_n (pc := 77) dX12_named_77 rfl ?_
                  refine r_if_eq (pc := 78) 88 dX12_named_78 (by decide) (fun c78 => ?_) (fun c78 => ?_)
                  · skip
                    first
                    | exact absurd c78 (by decide)
                    | skip
                      refine r_iload_n (pc := 88) dX12_named_88 rfl ?_
                      refine r_if_eq (pc := 89) 99 dX12_named_89 (by decide) (fun c89 => ?_) (fun c89 => ?_)
                      · skip
                        first
                        | exact absurd c89 (by decide)
                        | skip
                          refine r_aload_n (pc := 99) dX12_named_99 rfl ?_
                          refine r_getf (pc := 100) (k := 16) dX12_named_100 hX12 eX12 (by decide) fX12_150 (fun _ q => mo hm q) rfl ?_
                          refine r_ireturn (pc := 103) (ty := .int) dX12_named_103 rfl rfl ⟨Nat.zero_le _, Nat.zero_le _⟩ (fun gE hg => ?_)
                          first
                          | exact fin _ 0 (hn.trans (if_pos c3)) (by decide) q.2.2.2.2.1.symm gE hg
                          | exact fin _ 1 (hn.trans ((if_neg c3).trans (if_pos c15))) (by decide) q.2.2.2.2.2.1.symm gE hg
                          | exact fin _ 2 (hn.trans ((if_neg c3).trans ((if_neg c15).trans (if_pos (c39.trans hU.symm))))) (by decide) q.2.2.2.2.2.2.1.symm gE hg
                      · skip
                        first
                        | exact absurd rfl c89
                        | skip
                          refine r_aload_n (pc := 92) dX12_named_92 rfl ?_
                          refine r_getf (pc := 93) (k := 15) dX12_named_93 hX12 eX12 (by decide) fX12_147 (fun _ q => mo hm q) rfl ?_
                          refine r_goto (pc := 96) 103 dX12_named_96 (by decide) ?_
                          refine r_ireturn (pc := 103) (ty := .int) dX12_named_103 rfl rfl ⟨Nat.zero_le _, Nat.zero_le _⟩ (fun gE hg => ?_)
                          first
                          | exact fin _ 0 (hn.trans (if_pos c3)) (by decide) q.2.2.2.2.1.symm gE hg
                          | exact fin _ 1 (hn.trans ((if_neg c3).trans (if_pos c15))) (by decide) q.2.2.2.2.2.1.symm gE hg
                          | exact fin _ 2 (hn.trans ((if_neg c3).trans ((if_neg c15).trans (if_pos (c39.trans hU.symm))))) (by decide) q.2.2.2.2.2.2.1.symm gE hg
                  · skip
                    first
                    | exact absurd rfl c78
                    | skip
                      refine r_aload_n (pc := 81) dX12_named_81 rfl ?_
                      refine r_getf (pc := 82) (k := 14) dX12_named_82 hX12 eX12 (by decide) fX12_144 (fun _ q => mo hm q) rfl ?_
                      refine r_goto (pc := 85) 103 dX12_named_85 (by decide) ?_
                      refine r_ireturn (pc := 103) (ty := .int) dX12_named_103 rfl rfl ⟨Nat.zero_le _, Nat.zero_le _⟩ (fun gE hg => ?_)
                      first
                      | exact fin _ 0 (hn.trans (if_pos c3)) (by decide) q.2.2.2.2.1.symm gE hg
                      | exact fin _ 1 (hn.trans ((if_neg c3).trans (if_pos c15))) (by decide) q.2.2.2.2.2.1.symm gE hg
                      | exact fin _ 2 (hn.trans ((if_neg c3).trans ((if_neg c15).trans (if_pos (c39.trans hU.symm))))) (by decide) q.2.2.2.2.2.2.1.symm gE hg
              · skip
                first
                | exact absurd c54 (by decide)
                | skip
                  refine r_iload (pc := 57) dX12_named_57 rfl ?_
                  refine r_if_ne (pc := 59) 67 dX12_named_59 (by decide) (fun c59 => ?_) (fun c59 => ?_)
                  · skip
                    first
                    | exact absurd rfl c59
                    | skip
                      refine r_aload_n (pc := 67) dX12_named_67 rfl ?_
                      refine r_dup (pc := 68) dX12_named_68 rfl ?_
                      refine r_getf (pc := 69) (k := 11) dX12_named_69 hX12 eX12 (by decide) fX12_132 (fun _ q => mo hm q) rfl ?_
                      rw [q.2.1]
                      refine r_iconst (pc := 72) (v := 1) dX12_named_72 (by decide) ?_
                      refine r_iadd (pc := 73) dX12_named_73 ?_
                      rw [nI_1]
                      refine r_mp (pc := 74) (k := 11) hm dX12_named_74 fX12_132 (by decide) rfl rfl (fun _ _ => rfl) (fun _ _ => rfl) rfl ?_
                      refine r_iload_n (pc := 77) dX12_named_77 rfl ?_
                      refine r_if_eq (pc := 78) 88 dX12_named_78 (by decide) (fun c78 => ?_) (fun c78 => ?_)
                      · skip
                        first
                        | exact absurd c78 (by decide)
                        | skip
                          refine r_iload_n (pc := 88) dX12_named_88 rfl ?_
                          refine r_if_eq (pc := 89) 99 dX12_named_89 (by decide) (fun c89 => ?_) (fun c89 => ?_)
                          · skip
                            first
                            | exact absurd c89 (by decide)
                            | skip
                              refine r_aload_n (pc := 99) dX12_named_99 rfl ?_
                              refine r_getf (pc := 100) (k := 16) dX12_named_100 hX12 eX12 (by decide) fX12_150 (fun _ q => mo hm q) rfl ?_
                              refine r_ireturn (pc := 103) (ty := .int) dX12_named_103 rfl rfl ⟨Nat.zero_le _, Nat.zero_le _⟩ (fun gE hg => ?_)
                              first
                              | exact fin _ 0 (hn.trans (if_pos c3)) (by decide) q.2.2.2.2.1.symm gE hg
                              | exact fin _ 1 (hn.trans ((if_neg c3).trans (if_pos c15))) (by decide) q.2.2.2.2.2.1.symm gE hg
                              | exact fin _ 2 (hn.trans ((if_neg c3).trans ((if_neg c15).trans (if_pos (c39.trans hU.symm))))) (by decide) q.2.2.2.2.2.2.1.symm gE hg
                          · skip
                            first
                            | exact absurd rfl c89
                            | skip
                              refine r_aload_n (pc := 92) dX12_named_92 rfl ?_
                              refine r_getf (pc := 93) (k := 15) dX12_named_93 hX12 eX12 (by decide) fX12_147 (fun _ q => mo hm q) rfl ?_
                              refine r_goto (pc := 96) 103 dX12_named_96 (by decide) ?_
                              refine r_ireturn (pc := 103) (ty := .int) dX12_named_103 rfl rfl ⟨Nat.zero_le _, Nat.zero_le _⟩ (fun gE hg => ?_)
                              first
                              | exact fin _ 0 (hn.trans (if_pos c3)) (by decide) q.2.2.2.2.1.symm gE hg
                              | exact fin _ 1 (hn.trans ((if_neg c3).trans (if_pos c15))) (by decide) q.2.2.2.2.2.1.symm gE hg
                              | exact fin _ 2 (hn.trans ((if_neg c3).trans ((if_neg c15).trans (if_pos (c39.trans hU.symm))))) (by decide) q.2.2.2.2.2.2.1.symm gE hg
                      · skip
                        first
                        | exact absurd rfl c78
                        | skip
                          refine r_aload_n (pc := 81) dX12_named_81 rfl ?_
                          refine r_getf (pc := 82) (k := 14) dX12_named_82 hX12 eX12 (by decide) fX12_144 (fun _ q => mo hm q) rfl ?_
                          refine r_goto (pc := 85) 103 dX12_named_85 (by decide) ?_
                          refine r_ireturn (pc := 103) (ty := .int) dX12_named_103 rfl rfl ⟨Nat.zero_le _, Nat.zero_le _⟩ (fun gE hg => ?_)
                          first
                          | exact fin _ 0 (hn.trans (if_pos c3)) (by decide) q.2.2.2.2.1.symm gE hg
                          | exact fin _ 1 (hn.trans ((if_neg c3).trans (if_pos c15))) (by decide) q.2.2.2.2.2.1.symm gE hg
                          | exact fin _ 2 (hn.trans ((if_neg c3).trans ((if_neg c15).trans (if_pos (c39.trans hU.symm))))) (by decide) q.2.2.2.2.2.2.1.symm gE hg
                  · skip
                    first
                    | exact absurd c59 (by decide)
                    | skip
                      refine r_aload_n (pc := 62) dX12_named_62 rfl ?_
                      refine r_Vi (pc := 63) (μ' := mX12_fails) dX12_named_63 nX12_141 iX12_fails vX12_fails kX12_fails rfl rfl (rr (by decide) rfl) rfl ⟨Nat.zero_le _, Nat.zero_le _⟩ (fun _ q_ => cvq q_ (ct_M_fails hm)) ?_
                      refine r_ireturn (pc := 66) (ty := .int) dX12_named_66 rfl rfl ⟨Nat.zero_le _, Nat.zero_le _⟩ (fun gE hg => ?_)
                      have e1 : nameI (nI u) c = -1 := hn.trans ((if_neg c3).trans ((if_neg c15).trans (if_neg (fun x => c39 (x.trans hU)))))
                      rw [e1, if_neg (by decide), if_neg (by decide), if_neg (by decide), if_neg (by decide)]
                      exact ⟨rfl, _, ⟨q.fl, (sFr.rf s).up (by omega)⟩, hg⟩
      · skip
        have hU : (if nI u = 0 then (104 : Int32) else 119) = 104 := if_pos c29
        refine r_bipush (pc := 32) (v := 104) dX12_named_32 (by decide) ?_
        refine r_goto (pc := 34) 39 dX12_named_34 (by decide) ?_
        refine r_icmp_ne (pc := 39) 46 dX12_named_39 (by decide) (fun c39 => ?_) (fun c39 => ?_)
        · skip
          refine r_iconst (pc := 46) (v := 0) dX12_named_46 (by decide) ?_
          refine r_istore (pc := 47) dX12_named_47 (Nat.le_of_ble_eq_true rfl) rfl ?_
          dsimp only [lset]
          refine r_iload_n (pc := 49) dX12_named_49 rfl ?_
          refine r_if_ne (pc := 50) 67 dX12_named_50 (by decide) (fun c50 => ?_) (fun c50 => ?_)
          · skip
            first
            | exact absurd rfl c50
            | skip
              refine r_aload_n (pc := 67) dX12_named_67 rfl ?_
              refine r_dup (pc := 68) dX12_named_68 rfl ?_
              refine r_getf (pc := 69) (k := 11) dX12_named_69 hX12 eX12 (by decide) fX12_132 (fun _ q => mo hm q) rfl ?_
              rw [q.2.1]
              refine r_iconst (pc := 72) (v := 1) dX12_named_72 (by decide) ?_
              refine r_iadd (pc := 73) dX12_named_73 ?_
              rw [nI_1]
              refine r_mp (pc := 74) (k := 11) hm dX12_named_74 fX12_132 (by decide) rfl rfl (fun _ _ => rfl) (fun _ _ => rfl) rfl ?_
              refine r_iload_n (pc := 77) dX12_named_77 rfl ?_
              refine r_if_eq (pc := 78) 88 dX12_named_78 (by decide) (fun c78 => ?_) (fun c78 => ?_)
              · skip
                first
                | exact absurd c78 (by decide)
                | skip
                  refine r_iload_n (pc := 88) dX12_named_88 rfl ?_
                  refine r_if_eq (pc := 89) 99 dX12_named_89 (by decide) (fun c89 => ?_) (fun c89 => ?_)
                  · skip
                    first
                    | exact absurd c89 (by decide)
                    | skip
                      refine r_aload_n (pc := 99) dX12_named_99 rfl ?_
                      refine r_getf (pc := 100) (k := 16) dX12_named_100 hX12 eX12 (by decide) fX12_150 (fun _ q => mo hm q) rfl ?_
                      refine r_ireturn (pc := 103) (ty := .int) dX12_named_103 rfl rfl ⟨Nat.zero_le _, Nat.zero_le _⟩ (fun gE hg => ?_)
                      first
                      | exact fin _ 0 (hn.trans (if_pos c3)) (by decide) q.2.2.2.2.1.symm gE hg
                      | exact fin _ 1 (hn.trans ((if_neg c3).trans (if_pos c15))) (by decide) q.2.2.2.2.2.1.symm gE hg
                      | exact fin _ 2 (hn.trans ((if_neg c3).trans ((if_neg c15).trans (if_pos (c39.trans hU.symm))))) (by decide) q.2.2.2.2.2.2.1.symm gE hg
                  · skip
                    first
                    | exact absurd rfl c89
                    | skip
                      refine r_aload_n (pc := 92) dX12_named_92 rfl ?_
                      refine r_getf (pc := 93) (k := 15) dX12_named_93 hX12 eX12 (by decide) fX12_147 (fun _ q => mo hm q) rfl ?_
                      refine r_goto (pc := 96) 103 dX12_named_96 (by decide) ?_
                      refine r_ireturn (pc := 103) (ty := .int) dX12_named_103 rfl rfl ⟨Nat.zero_le _, Nat.zero_le _⟩ (fun gE hg => ?_)
                      first
                      | exact fin _ 0 (hn.trans (if_pos c3)) (by decide) q.2.2.2.2.1.symm gE hg
                      | exact fin _ 1 (hn.trans ((if_neg c3).trans (if_pos c15))) (by decide) q.2.2.2.2.2.1.symm gE hg
                      | exact fin _ 2 (hn.trans ((if_neg c3).trans ((if_neg c15).trans (if_pos (c39.trans hU.symm))))) (by decide) q.2.2.2.2.2.2.1.symm gE hg
              · skip
                first
                | exact absurd rfl c78
                | skip
                  refine r_aload_n (pc := 81) dX12_named_81 rfl ?_
                  refine r_getf (pc := 82) (k := 14) dX12_named_82 hX12 eX12 (by decide) fX12_144 (fun _ q => mo hm q) rfl ?_
                  refine r_goto (pc := 85) 103 dX12_named_85 (by decide) ?_
                  refine r_ireturn (pc := 103) (ty := .int) dX12_named_103 rfl rfl ⟨Nat.zero_le _, Nat.zero_le _⟩ (fun gE hg => ?_)
                  first
                  | exact fin _ 0 (hn.trans (if_pos c3)) (by decide) q.2.2.2.2.1.symm gE hg
                  | exact fin _ 1 (hn.trans ((if_neg c3).trans (if_pos c15))) (by decide) q.2.2.2.2.2.1.symm gE hg
                  | exact fin _ 2 (hn.trans ((if_neg c3).trans ((if_neg c15).trans (if_pos (c39.trans hU.symm))))) (by decide) q.2.2.2.2.2.2.1.symm gE hg
          · skip
            first
            | exact absurd c50 (by decide)
            | skip
              refine r_iload_n (pc := 53) dX12_named_53 rfl ?_
              refine r_if_ne (pc := 54) 67 dX12_named_54 (by decide) (fun c54 => ?_) (fun c54 => ?_)
              · skip
                first
                | exact absurd rfl c54
                | skip
                  refine r_aload_n (pc := 67) dX12_named_67 rfl ?_
                  refine r_dup (pc := 68) dX12_named_68 rfl ?_
                  refine r_getf (pc := 69) (k := 11) dX12_named_69 hX12 eX12 (by decide) fX12_132 (fun _ q => mo hm q) rfl ?_
                  rw [q.2.1]
                  refine r_iconst (pc := 72) (v := 1) dX12_named_72 (by decide) ?_
                  refine r_iadd (pc := 73) dX12_named_73 ?_
                  rw [nI_1]
                  refine r_mp (pc := 74) (k := 11) hm dX12_named_74 fX12_132 (by decide) rfl rfl (fun _ _ => rfl) (fun _ _ => rfl) rfl ?_
                  refine r_iload_n (pc := 77) dX12_named_77 rfl ?_
                  refine r_if_eq (pc := 78) 88 dX12_named_78 (by decide) (fun c78 => ?_) (fun c78 => ?_)
                  · skip
                    first
                    | exact absurd c78 (by decide)
                    | skip
                      refine r_iload_n (pc := 88) dX12_named_88 rfl ?_
                      refine r_if_eq (pc := 89) 99 dX12_named_89 (by decide) (fun c89 => ?_) (fun c89 => ?_)
                      · skip
                        first
                        | exact absurd c89 (by decide)
                        | skip
                          refine r_aload_n (pc := 99) dX12_named_99 rfl ?_
                          refine r_getf (pc := 100) (k := 16) dX12_named_100 hX12 eX12 (by decide) fX12_150 (fun _ q => mo hm q) rfl ?_
                          refine r_ireturn (pc := 103) (ty := .int) dX12_named_103 rfl rfl ⟨Nat.zero_le _, Nat.zero_le _⟩ (fun gE hg => ?_)
                          first
                          | exact fin _ 0 (hn.trans (if_pos c3)) (by decide) q.2.2.2.2.1.symm gE hg
                          | exact fin _ 1 (hn.trans ((if_neg c3).trans (if_pos c15))) (by decide) q.2.2.2.2.2.1.symm gE hg
                          | exact fin _ 2 (hn.trans ((if_neg c3).trans ((if_neg c15).trans (if_pos (c39.trans hU.symm))))) (by decide) q.2.2.2.2.2.2.1.symm gE hg
                      · skip
                        first
                        | exact absurd rfl c89
                        | skip
                          refine r_aload_n (pc := 92) dX12_named_92 rfl ?_
                          refine r_getf (pc := 93) (k := 15) dX12_named_93 hX12 eX12 (by decide) fX12_147 (fun _ q => mo hm q) rfl ?_
                          refine r_goto (pc := 96) 103 dX12_named_96 (by decide) ?_
                          refine r_ireturn (pc := 103) (ty := .int) dX12_named_103 rfl rfl ⟨Nat.zero_le _, Nat.zero_le _⟩ (fun gE hg => ?_)
                          first
                          | exact fin _ 0 (hn.trans (if_pos c3)) (by decide) q.2.2.2.2.1.symm gE hg
                          | exact fin _ 1 (hn.trans ((if_neg c3).trans (if_pos c15))) (by decide) q.2.2.2.2.2.1.symm gE hg
                          | exact fin _ 2 (hn.trans ((if_neg c3).trans ((if_neg c15).trans (if_pos (c39.trans hU.symm))))) (by decide) q.2.2.2.2.2.2.1.symm gE hg
                  · skip
                    first
                    | exact absurd rfl c78
                    | skip
                      refine r_aload_n (pc := 81) dX12_named_81 rfl ?_
                      refine r_getf (pc := 82) (k := 14) dX12_named_82 hX12 eX12 (by decide) fX12_144 (fun _ q => mo hm q) rfl ?_
                      refine r_goto (pc := 85) 103 dX12_named_85 (by decide) ?_
                      refine r_ireturn (pc := 103) (ty := .int) dX12_named_103 rfl rfl ⟨Nat.zero_le _, Nat.zero_le _⟩ (fun gE hg => ?_)
                      first
                      | exact fin _ 0 (hn.trans (if_pos c3)) (by decide) q.2.2.2.2.1.symm gE hg
                      | exact fin _ 1 (hn.trans ((if_neg c3).trans (if_pos c15))) (by decide) q.2.2.2.2.2.1.symm gE hg
                      | exact fin _ 2 (hn.trans ((if_neg c3).trans ((if_neg c15).trans (if_pos (c39.trans hU.symm))))) (by decide) q.2.2.2.2.2.2.1.symm gE hg
              · skip
                first
                | exact absurd c54 (by decide)
                | skip
                  refine r_iload (pc := 57) dX12_named_57 rfl ?_
                  refine r_if_ne (pc := 59) 67 dX12_named_59 (by decide) (fun c59 => ?_) (fun c59 => ?_)
                  · skip
                    first
                    | exact absurd rfl c59
                    | skip
                      refine r_aload_n (pc := 67) dX12_named_67 rfl ?_
                      refine r_dup (pc := 68) dX12_named_68 rfl ?_
                      refine r_getf (pc := 69) (k := 11) dX12_named_69 hX12 eX12 (by decide) fX12_132 (fun _ q => mo hm q) rfl ?_
                      rw [q.2.1]
                      refine r_iconst (pc := 72) (v := 1) dX12_named_72 (by decide) ?_
                      refine r_iadd (pc := 73) dX12_named_73 ?_
                      rw [nI_1]
                      refine r_mp (pc := 74) (k := 11) hm dX12_named_74 fX12_132 (by decide) rfl rfl (fun _ _ => rfl) (fun _ _ => rfl) rfl ?_
                      refine r_iload_n (pc := 77) dX12_named_77 rfl ?_
                      refine r_if_eq (pc := 78) 88 dX12_named_78 (by decide) (fun c78 => ?_) (fun c78 => ?_)
                      · skip
                        first
                        | exact absurd c78 (by decide)
                        | skip
                          refine r_iload_n (pc := 88) dX12_named_88 rfl ?_
                          refine r_if_eq (pc := 89) 99 dX12_named_89 (by decide) (fun c89 => ?_) (fun c89 => ?_)
                          · skip
                            first
                            | exact absurd c89 (by decide)
                            | skip
                              refine r_aload_n (pc := 99) dX12_named_99 rfl ?_
                              refine r_getf (pc := 100) (k := 16) dX12_named_100 hX12 eX12 (by decide) fX12_150 (fun _ q => mo hm q) rfl ?_
                              refine r_ireturn (pc := 103) (ty := .int) dX12_named_103 rfl rfl ⟨Nat.zero_le _, Nat.zero_le _⟩ (fun gE hg => ?_)
                              first
                              | exact fin _ 0 (hn.trans (if_pos c3)) (by decide) q.2.2.2.2.1.symm gE hg
                              | exact fin _ 1 (hn.trans ((if_neg c3).trans (if_pos c15))) (by decide) q.2.2.2.2.2.1.symm gE hg
                              | exact fin _ 2 (hn.trans ((if_neg c3).trans ((if_neg c15).trans (if_pos (c39.trans hU.symm))))) (by decide) q.2.2.2.2.2.2.1.symm gE hg
                          · skip
                            first
                            | exact absurd rfl c89
                            | skip
                              refine r_aload_n (pc := 92) dX12_named_92 rfl ?_
                              refine r_getf (pc := 93) (k := 15) dX12_named_93 hX12 eX12 (by decide) fX12_147 (fun _ q => mo hm q) rfl ?_
                              refine r_goto (pc := 96) 103 dX12_named_96 (by decide) ?_
                              refine r_ireturn (pc := 103) (ty := .int) dX12_named_103 rfl rfl ⟨Nat.zero_le _, Nat.zero_le _⟩ (fun gE hg => ?_)
                              first
                              | exact fin _ 0 (hn.trans (if_pos c3)) (by decide) q.2.2.2.2.1.symm gE hg
                              | exact fin _ 1 (hn.trans ((if_neg c3).trans (if_pos c15))) (by decide) q.2.2.2.2.2.1.symm gE hg
                              | exact fin _ 2 (hn.trans ((if_neg c3).trans ((if_neg c15).trans (if_pos (c39.trans hU.symm))))) (by decide) q.2.2.2.2.2.2.1.symm gE hg
                      · skip
                        first
                        | exact absurd rfl c78
                        | skip
                          refine r_aload_n (pc := 81) dX12_named_81 rfl ?_
                          refine r_getf (pc := 82) (k := 14) dX12_named_82 hX12 eX12 (by decide) fX12_144 (fun _ q => mo hm q) rfl ?_
                          refine r_goto (pc := 85) 103 dX12_named_85 (by decide) ?_
                          refine r_ireturn (pc := 103) (ty := .int) dX12_named_103 rfl rfl ⟨Nat.zero_le _, Nat.zero_le _⟩ (fun gE hg => ?_)
                          first
                          | exact fin _ 0 (hn.trans (if_pos c3)) (by decide) q.2.2.2.2.1.symm gE hg
                          | exact fin _ 1 (hn.trans ((if_neg c3).trans (if_pos c15))) (by decide) q.2.2.2.2.2.1.symm gE hg
                          | exact fin _ 2 (hn.trans ((if_neg c3).trans ((if_neg c15).trans (if_pos (c39.trans hU.symm))))) (by decide) q.2.2.2.2.2.2.1.symm gE hg
                  · skip
                    first
                    | exact absurd c59 (by decide)
                    | skip
                      refine r_aload_n (pc := 62) dX12_named_62 rfl ?_
                      refine r_Vi (pc := 63) (μ' := mX12_fails) dX12_named_63 nX12_141 iX12_fails vX12_fails kX12_fails rfl rfl (rr (by decide) rfl) rfl ⟨Nat.zero_le _, Nat.zero_le _⟩ (fun _ q_ => cvq q_ (ct_M_fails hm)) ?_
                      refine r_ireturn (pc := 66) (ty := .int) dX12_named_66 rfl rfl ⟨Nat.zero_le _, Nat.zero_le _⟩ (fun gE hg => ?_)
                      have e1 : nameI (nI u) c = -1 := hn.trans ((if_neg c3).trans ((if_neg c15).trans (if_neg (fun x => c39 (x.trans hU)))))
                      rw [e1, if_neg (by decide), if_neg (by decide), if_neg (by decide), if_neg (by decide)]
                      exact ⟨rfl, _, ⟨q.fl, (sFr.rf s).up (by omega)⟩, hg⟩
        · skip
          refine r_iconst (pc := 42) (v := 1) dX12_named_42 (by decide) ?_
          refine r_goto (pc := 43) 47 dX12_named_43 (by decide) ?_
          refine r_istore (pc := 47) dX12_named_47 (Nat.le_of_ble_eq_true rfl) rfl ?_
          dsimp only [lset]
          refine r_iload_n (pc := 49) dX12_named_49 rfl ?_
          refine r_if_ne (pc := 50) 67 dX12_named_50 (by decide) (fun c50 => ?_) (fun c50 => ?_)
          · skip
            first
            | exact absurd rfl c50
            | skip
              refine r_aload_n (pc := 67) dX12_named_67 rfl ?_
              refine r_dup (pc := 68) dX12_named_68 rfl ?_
              refine r_getf (pc := 69) (k := 11) dX12_named_69 hX12 eX12 (by decide) fX12_132 (fun _ q => mo hm q) rfl ?_
              rw [q.2.1]
              refine r_iconst (pc := 72) (v := 1) dX12_named_72 (by decide) ?_
              refine r_iadd (pc := 73) dX12_named_73 ?_
              rw [nI_1]
              refine r_mp (pc := 74) (k := 11) hm dX12_named_74 fX12_132 (by decide) rfl rfl (fun _ _ => rfl) (fun _ _ => rfl) rfl ?_
              refine r_iload_n (pc := 77) dX12_named_77 rfl ?_
              refine r_if_eq (pc := 78) 88 dX12_named_78 (by decide) (fun c78 => ?_) (fun c78 => ?_)
              · skip
                first
                | exact absurd c78 (by decide)
                | skip
                  refine r_iload_n (pc := 88) dX12_named_88 rfl ?_
                  refine r_if_eq (pc := 89) 99 dX12_named_89 (by decide) (fun c89 => ?_) (fun c89 => ?_)
                  · skip
                    first
                    | exact absurd c89 (by decide)
                    | skip
                      refine r_aload_n (pc := 99) dX12_named_99 rfl ?_
                      refine r_getf (pc := 100) (k := 16) dX12_named_100 hX12 eX12 (by decide) fX12_150 (fun _ q => mo hm q) rfl ?_
                      refine r_ireturn (pc := 103) (ty := .int) dX12_named_103 rfl rfl ⟨Nat.zero_le _, Nat.zero_le _⟩ (fun gE hg => ?_)
                      first
                      | exact fin _ 0 (hn.trans (if_pos c3)) (by decide) q.2.2.2.2.1.symm gE hg
                      | exact fin _ 1 (hn.trans ((if_neg c3).trans (if_pos c15))) (by decide) q.2.2.2.2.2.1.symm gE hg
                      | exact fin _ 2 (hn.trans ((if_neg c3).trans ((if_neg c15).trans (if_pos (c39.trans hU.symm))))) (by decide) q.2.2.2.2.2.2.1.symm gE hg
                  · skip
                    first
                    | exact absurd rfl c89
                    | skip
                      refine r_aload_n (pc := 92) dX12_named_92 rfl ?_
                      refine r_getf (pc := 93) (k := 15) dX12_named_93 hX12 eX12 (by decide) fX12_147 (fun _ q => mo hm q) rfl ?_
                      refine r_goto (pc := 96) 103 dX12_named_96 (by decide) ?_
                      refine r_ireturn (pc := 103) (ty := .int) dX12_named_103 rfl rfl ⟨Nat.zero_le _, Nat.zero_le _⟩ (fun gE hg => ?_)
                      first
                      | exact fin _ 0 (hn.trans (if_pos c3)) (by decide) q.2.2.2.2.1.symm gE hg
                      | exact fin _ 1 (hn.trans ((if_neg c3).trans (if_pos c15))) (by decide) q.2.2.2.2.2.1.symm gE hg
                      | exact fin _ 2 (hn.trans ((if_neg c3).trans ((if_neg c15).trans (if_pos (c39.trans hU.symm))))) (by decide) q.2.2.2.2.2.2.1.symm gE hg
              · skip
                first
                | exact absurd rfl c78
                | skip
                  refine r_aload_n (pc := 81) dX12_named_81 rfl ?_
                  refine r_getf (pc := 82) (k := 14) dX12_named_82 hX12 eX12 (by decide) fX12_144 (fun _ q => mo hm q) rfl ?_
                  refine r_goto (pc := 85) 103 dX12_named_85 (by decide) ?_
                  refine r_ireturn (pc := 103) (ty := .int) dX12_named_103 rfl rfl ⟨Nat.zero_le _, Nat.zero_le _⟩ (fun gE hg => ?_)
                  first
                  | exact fin _ 0 (hn.trans (if_pos c3)) (by decide) q.2.2.2.2.1.symm gE hg
                  | exact fin _ 1 (hn.trans ((if_neg c3).trans (if_pos c15))) (by decide) q.2.2.2.2.2.1.symm gE hg
                  | exact fin _ 2 (hn.trans ((if_neg c3).trans ((if_neg c15).trans (if_pos (c39.trans hU.symm))))) (by decide) q.2.2.2.2.2.2.1.symm gE hg
          · skip
            first
            | exact absurd c50 (by decide)
            | skip
              refine r_iload_n (pc := 53) dX12_named_53 rfl ?_
              refine r_if_ne (pc := 54) 67 dX12_named_54 (by decide) (fun c54 => ?_) (fun c54 => ?_)
              · skip
                first
                | exact absurd rfl c54
                | skip
                  refine r_aload_n (pc := 67) dX12_named_67 rfl ?_
                  refine r_dup (pc := 68) dX12_named_68 rfl ?_
                  refine r_getf (pc := 69) (k := 11) dX12_named_69 hX12 eX12 (by decide) fX12_132 (fun _ q => mo hm q) rfl ?_
                  rw [q.2.1]
                  refine r_iconst (pc := 72) (v := 1) dX12_named_72 (by decide) ?_
                  refine r_iadd (pc := 73) dX12_named_73 ?_
                  rw [nI_1]
                  refine r_mp (pc := 74) (k := 11) hm dX12_named_74 fX12_132 (by decide) rfl rfl (fun _ _ => rfl) (fun _ _ => rfl) rfl ?_
                  refine r_iload_n (pc := 77) dX12_named_77 rfl ?_
                  refine r_if_eq (pc := 78) 88 dX12_named_78 (by decide) (fun c78 => ?_) (fun c78 => ?_)
                  · skip
                    first
                    | exact absurd c78 (by decide)
                    | skip
                      refine r_iload_n (pc := 88) dX12_named_88 rfl ?_
                      refine r_if_eq (pc := 89) 99 dX12_named_89 (by decide) (fun c89 => ?_) (fun c89 => ?_)
                      · skip
                        first
                        | exact absurd c89 (by decide)
                        | skip
                          refine r_aload_n (pc := 99) dX12_named_99 rfl ?_
                          refine r_getf (pc := 100) (k := 16) dX12_named_100 hX12 eX12 (by decide) fX12_150 (fun _ q => mo hm q) rfl ?_
                          refine r_ireturn (pc := 103) (ty := .int) dX12_named_103 rfl rfl ⟨Nat.zero_le _, Nat.zero_le _⟩ (fun gE hg => ?_)
                          first
                          | exact fin _ 0 (hn.trans (if_pos c3)) (by decide) q.2.2.2.2.1.symm gE hg
                          | exact fin _ 1 (hn.trans ((if_neg c3).trans (if_pos c15))) (by decide) q.2.2.2.2.2.1.symm gE hg
                          | exact fin _ 2 (hn.trans ((if_neg c3).trans ((if_neg c15).trans (if_pos (c39.trans hU.symm))))) (by decide) q.2.2.2.2.2.2.1.symm gE hg
                      · skip
                        first
                        | exact absurd rfl c89
                        | skip
                          refine r_aload_n (pc := 92) dX12_named_92 rfl ?_
                          refine r_getf (pc := 93) (k := 15) dX12_named_93 hX12 eX12 (by decide) fX12_147 (fun _ q => mo hm q) rfl ?_
                          refine r_goto (pc := 96) 103 dX12_named_96 (by decide) ?_
                          refine r_ireturn (pc := 103) (ty := .int) dX12_named_103 rfl rfl ⟨Nat.zero_le _, Nat.zero_le _⟩ (fun gE hg => ?_)
                          first
                          | exact fin _ 0 (hn.trans (if_pos c3)) (by decide) q.2.2.2.2.1.symm gE hg
                          | exact fin _ 1 (hn.trans ((if_neg c3).trans (if_pos c15))) (by decide) q.2.2.2.2.2.1.symm gE hg
                          | exact fin _ 2 (hn.trans ((if_neg c3).trans ((if_neg c15).trans (if_pos (c39.trans hU.symm))))) (by decide) q.2.2.2.2.2.2.1.symm gE hg
                  · skip
                    first
                    | exact absurd rfl c78
                    | skip
                      refine r_aload_n (pc := 81) dX12_named_81 rfl ?_
                      refine r_getf (pc := 82) (k := 14) dX12_named_82 hX12 eX12 (by decide) fX12_144 (fun _ q => mo hm q) rfl ?_
                      refine r_goto (pc := 85) 103 dX12_named_85 (by decide) ?_
                      refine r_ireturn (pc := 103) (ty := .int) dX12_named_103 rfl rfl ⟨Nat.zero_le _, Nat.zero_le _⟩ (fun gE hg => ?_)
                      first
                      | exact fin _ 0 (hn.trans (if_pos c3)) (by decide) q.2.2.2.2.1.symm gE hg
                      | exact fin _ 1 (hn.trans ((if_neg c3).trans (if_pos c15))) (by decide) q.2.2.2.2.2.1.symm gE hg
                      | exact fin _ 2 (hn.trans ((if_neg c3).trans ((if_neg c15).trans (if_pos (c39.trans hU.symm))))) (by decide) q.2.2.2.2.2.2.1.symm gE hg
              · skip
                first
                | exact absurd c54 (by decide)
                | skip
                  refine r_iload (pc := 57) dX12_named_57 rfl ?_
                  refine r_if_ne (pc := 59) 67 dX12_named_59 (by decide) (fun c59 => ?_) (fun c59 => ?_)
                  · skip
                    first
                    | exact absurd rfl c59
                    | skip
                      refine r_aload_n (pc := 67) dX12_named_67 rfl ?_
                      refine r_dup (pc := 68) dX12_named_68 rfl ?_
                      refine r_getf (pc := 69) (k := 11) dX12_named_69 hX12 eX12 (by decide) fX12_132 (fun _ q => mo hm q) rfl ?_
                      rw [q.2.1]
                      refine r_iconst (pc := 72) (v := 1) dX12_named_72 (by decide) ?_
                      refine r_iadd (pc := 73) dX12_named_73 ?_
                      rw [nI_1]
                      refine r_mp (pc := 74) (k := 11) hm dX12_named_74 fX12_132 (by decide) rfl rfl (fun _ _ => rfl) (fun _ _ => rfl) rfl ?_
                      refine r_iload_n (pc := 77) dX12_named_77 rfl ?_
                      refine r_if_eq (pc := 78) 88 dX12_named_78 (by decide) (fun c78 => ?_) (fun c78 => ?_)
                      · skip
                        first
                        | exact absurd c78 (by decide)
                        | skip
                          refine r_iload_n (pc := 88) dX12_named_88 rfl ?_
                          refine r_if_eq (pc := 89) 99 dX12_named_89 (by decide) (fun c89 => ?_) (fun c89 => ?_)
                          · skip
                            first
                            | exact absurd c89 (by decide)
                            | skip
                              refine r_aload_n (pc := 99) dX12_named_99 rfl ?_
                              refine r_getf (pc := 100) (k := 16) dX12_named_100 hX12 eX12 (by decide) fX12_150 (fun _ q => mo hm q) rfl ?_
                              refine r_ireturn (pc := 103) (ty := .int) dX12_named_103 rfl rfl ⟨Nat.zero_le _, Nat.zero_le _⟩ (fun gE hg => ?_)
                              first
                              | exact fin _ 0 (hn.trans (if_pos c3)) (by decide) q.2.2.2.2.1.symm gE hg
                              | exact fin _ 1 (hn.trans ((if_neg c3).trans (if_pos c15))) (by decide) q.2.2.2.2.2.1.symm gE hg
                              | exact fin _ 2 (hn.trans ((if_neg c3).trans ((if_neg c15).trans (if_pos (c39.trans hU.symm))))) (by decide) q.2.2.2.2.2.2.1.symm gE hg
                          · skip
                            first
                            | exact absurd rfl c89
                            | skip
                              refine r_aload_n (pc := 92) dX12_named_92 rfl ?_
                              refine r_getf (pc := 93) (k := 15) dX12_named_93 hX12 eX12 (by decide) fX12_147 (fun _ q => mo hm q) rfl ?_
                              refine r_goto (pc := 96) 103 dX12_named_96 (by decide) ?_
                              refine r_ireturn (pc := 103) (ty := .int) dX12_named_103 rfl rfl ⟨Nat.zero_le _, Nat.zero_le _⟩ (fun gE hg => ?_)
                              first
                              | exact fin _ 0 (hn.trans (if_pos c3)) (by decide) q.2.2.2.2.1.symm gE hg
                              | exact fin _ 1 (hn.trans ((if_neg c3).trans (if_pos c15))) (by decide) q.2.2.2.2.2.1.symm gE hg
                              | exact fin _ 2 (hn.trans ((if_neg c3).trans ((if_neg c15).trans (if_pos (c39.trans hU.symm))))) (by decide) q.2.2.2.2.2.2.1.symm gE hg
                      · skip
                        first
                        | exact absurd rfl c78
                        | skip
                          refine r_aload_n (pc := 81) dX12_named_81 rfl ?_
                          refine r_getf (pc := 82) (k := 14) dX12_named_82 hX12 eX12 (by decide) fX12_144 (fun _ q => mo hm q) rfl ?_
                          refine r_goto (pc := 85) 103 dX12_named_85 (by decide) ?_
                          refine r_ireturn (pc := 103) (ty := .int) dX12_named_103 rfl rfl ⟨Nat.zero_le _, Nat.zero_le _⟩ (fun gE hg => ?_)
                          first
                          | exact fin _ 0 (hn.trans (if_pos c3)) (by decide) q.2.2.2.2.1.symm gE hg
                          | exact fin _ 1 (hn.trans ((if_neg c3).trans (if_pos c15))) (by decide) q.2.2.2.2.2.1.symm gE hg
                          | exact fin _ 2 (hn.trans ((if_neg c3).trans ((if_neg c15).trans (if_pos (c39.trans hU.symm))))) (by decide) q.2.2.2.2.2.2.1.symm gE hg
                  · skip
                    first
                    | exact absurd c59 (by decide)
                    | skip
                      refine r_aload_n (pc := 62) dX12_named_62 rfl ?_
                      refine r_Vi (pc := 63) (μ' := mX12_fails) dX12_named_63 nX12_141 iX12_fails vX12_fails kX12_fails rfl rfl (rr (by decide) rfl) rfl ⟨Nat.zero_le _, Nat.zero_le _⟩ (fun _ q_ => cvq q_ (ct_M_fails hm)) ?_
                      refine r_ireturn (pc := 66) (ty := .int) dX12_named_66 rfl rfl ⟨Nat.zero_le _, Nat.zero_le _⟩ (fun gE hg => ?_)
                      have e1 : nameI (nI u) c = -1 := hn.trans ((if_neg c3).trans ((if_neg c15).trans (if_neg (fun x => c39 (x.trans hU)))))
                      rw [e1, if_neg (by decide), if_neg (by decide), if_neg (by decide), if_neg (by decide)]
                      exact ⟨rfl, _, ⟨q.fl, (sFr.rf s).up (by omega)⟩, hg⟩
set_option maxHeartbeats 8000000 in
theorem ct_M_product {D : Nat} {f : RS → RS} (hD : 3 ≤ D) (hu : u < 2) (hb : bs.length ≤ 50) (hp : PF bs f) (hE : MdC u na nb nc bs op D mX12_factor f) : MdC u na nb nc bs op (D + 1) mX12_product (loopB bs [42, 47, 37] f) := by
  have L : ∀ (n : Nat) (σ : RS), σ.1 ≤ bs.length → σ.2.2.length ≤ σ.1 → bs.length - σ.1 ≤ n → ∀ x1 : Int32, ∃ x2, EvC na nb nc σ (chainB bs [42, 47, 37] f n σ) x1 x2 ∧ ∀ (m : Nat) (h : AH) (s0 s : Nat → Int32) (A : Nat → Nat → Int32), m + 14 < h.1 → MdS u na nb nc bs op σ s A → sFr s0 s → AW (fun _ => True) (rmd (D + 1) 0 0) mX12_product 0 0 5 [some (.ref m), some (.int x1), none, none] [] (MP m h s A) (fun v g => v = some (.int x2) ∧ ∃ s2, (MdS u na nb nc bs op (chainB bs [42, 47, 37] f n σ) s2 A ∧ sFr s0 s2) ∧ MP m h s2 A g) := by
    intro n
    induction n with
    | zero =>
      intro σ h1 h2 h3 x1
      refine ⟨x1, EvC.rf, fun m h s0 s A hm q q0 => ?_⟩
      have hnx : nxB bs σ = -1 := by unfold nxB; rw [if_neg (by omega)]
      refine r_aload_n (pc := 5) dX12_product_5 rfl ?_
      refine r_getf (pc := 6) (k := 17) dX12_product_6 hX12 eX12 (by decide) fX12_129 (fun _ q => mo hm q) rfl ?_
      rw [q.2.2.2.2.2.2.2.1]
      refine r_if_eq (pc := 9) 114 dX12_product_9 (by decide) (fun c9 => ?_) (fun c9 => ?_)
      · skip
        refine r_iload_n (pc := 114) dX12_product_114 rfl ?_
        refine r_ireturn (pc := 115) (ty := .int) dX12_product_115 rfl rfl ⟨Nat.zero_le _, Nat.zero_le _⟩ (fun gE hg => ?_)
        exact ⟨rfl, s, ⟨q, q0⟩, hg⟩
      · skip
        refine r_aload_n (pc := 12) dX12_product_12 rfl ?_
        refine r_aload_n (pc := 13) dX12_product_13 rfl ?_
        refine r_getf (pc := 14) (k := 11) dX12_product_14 hX12 eX12 (by decide) fX12_132 (fun _ q => mo hm q) rfl ?_
        rw [q.2.1]
        refine r_Vi (pc := 17) (μ' := mX12_byteAt) dX12_product_17 nX12_135 iX12_byteAt vX12_byteAt kX12_byteAt rfl rfl (rr (by omega) rfl) rfl ⟨Nat.zero_le _, Nat.zero_le _⟩ (fun _ q_ => cvq q_ (ct_M_next hm hu hb q h1)) ?_
        refine r_bipush (pc := 20) (v := 42) dX12_product_20 (by decide) ?_
        rw [hnx]
        refine r_icmp_eq (pc := 22) 51 dX12_product_22 (by decide) (fun c22 => ?_) (fun c22 => ?_)
        · skip
          exact absurd c22 (by decide)
        · skip
          refine r_aload_n (pc := 25) dX12_product_25 rfl ?_
          refine r_aload_n (pc := 26) dX12_product_26 rfl ?_
          refine r_getf (pc := 27) (k := 11) dX12_product_27 hX12 eX12 (by decide) fX12_132 (fun _ q => mo hm q) rfl ?_
          rw [q.2.1]
          refine r_Vi (pc := 30) (μ' := mX12_byteAt) dX12_product_30 nX12_135 iX12_byteAt vX12_byteAt kX12_byteAt rfl rfl (rr (by omega) rfl) rfl ⟨Nat.zero_le _, Nat.zero_le _⟩ (fun _ q_ => cvq q_ (ct_M_next hm hu hb q h1)) ?_
          refine r_bipush (pc := 33) (v := 47) dX12_product_33 (by decide) ?_
          rw [hnx]
          refine r_icmp_eq (pc := 35) 51 dX12_product_35 (by decide) (fun c35 => ?_) (fun c35 => ?_)
          · skip
            exact absurd c35 (by decide)
          · skip
            refine r_aload_n (pc := 38) dX12_product_38 rfl ?_
            refine r_aload_n (pc := 39) dX12_product_39 rfl ?_
            refine r_getf (pc := 40) (k := 11) dX12_product_40 hX12 eX12 (by decide) fX12_132 (fun _ q => mo hm q) rfl ?_
            rw [q.2.1]
            refine r_Vi (pc := 43) (μ' := mX12_byteAt) dX12_product_43 nX12_135 iX12_byteAt vX12_byteAt kX12_byteAt rfl rfl (rr (by omega) rfl) rfl ⟨Nat.zero_le _, Nat.zero_le _⟩ (fun _ q_ => cvq q_ (ct_M_next hm hu hb q h1)) ?_
            refine r_bipush (pc := 46) (v := 37) dX12_product_46 (by decide) ?_
            rw [hnx]
            refine r_icmp_ne (pc := 48) 114 dX12_product_48 (by decide) (fun c48 => ?_) (fun c48 => ?_)
            · skip
              refine r_iload_n (pc := 114) dX12_product_114 rfl ?_
              refine r_ireturn (pc := 115) (ty := .int) dX12_product_115 rfl rfl ⟨Nat.zero_le _, Nat.zero_le _⟩ (fun gE hg => ?_)
              exact ⟨rfl, s, ⟨q, q0⟩, hg⟩
            · skip
              exact absurd c48 (by decide)
    | succ n ih =>
      intro σ h1 h2 h3 x1
      by_cases hc : σ.2.1 = true ∧ nxB bs σ ∈ [42, 47, 37]
      · have hlt := nx_in hc.2 (by decide)
        obtain ⟨w, hw, hct⟩ := hE (adB σ) hlt (by show σ.2.2.length ≤ σ.1 + 1; omega) hc.1
        obtain ⟨p1, p2, p3⟩ := hp (adB σ) hlt hc.1
        have p2 : σ.1 + 1 ≤ (f (adB σ)).1 := p2
        have p4 := p3 1 (by show σ.2.2.length + 1 ≤ σ.1 + 1; omega)
        obtain ⟨sg, hsg⟩ : ∃ sg, sg = nxB bs σ := ⟨_, rfl⟩
        rw [← hsg] at hc
        have ho : sg ∈ opsL := (show ∀ z, z ∈ ([42, 47, 37] : List Int32) → z ∈ opsL by decide) sg hc.2
        have hle : (emB sg (f (adB σ))).2.2.length ≤ (f (adB σ)).2.2.length + 1 := addL_le
        obtain ⟨x2, he, hW⟩ := ih (emB sg (f (adB σ))) p1 (by show _ ≤ (f (adB σ)).1; omega) (by show bs.length - (f (adB σ)).1 ≤ n; omega) (joinI sg x1 w)
        have ec : chainB bs [42, 47, 37] f (n + 1) σ = chainB bs [42, 47, 37] f n (emB sg (f (adB σ))) := by
          show (if σ.2.1 = true ∧ nxB bs σ ∈ _ then _ else _) = _
          rw [← hsg, if_pos hc]
        rw [ec]
        refine ⟨x2, (EvR.op ho (by omega) hw).tr (fun g => chain_g g) he, fun m h s0 s A hm q q0 => ?_⟩
        have T : AW (fun _ => True) (rmd (D + 1) 0 0) mX12_product 0 0 51 [some (.ref m), some (.int x1), none, none] [] (MP m h s A) (fun v g => v = some (.int x2) ∧ ∃ s2, (MdS u na nb nc bs op (chainB bs [42, 47, 37] f n (emB sg (f (adB σ)))) s2 A ∧ sFr s0 s2) ∧ MP m h s2 A g) := by
          refine r_aload_n (pc := 51) dX12_product_51 rfl ?_
          refine r_aload_n (pc := 52) dX12_product_52 rfl ?_
          refine r_getf (pc := 53) (k := 11) dX12_product_53 hX12 eX12 (by decide) fX12_132 (fun _ q => mo hm q) rfl ?_
          rw [q.2.1]
          refine r_Vi (pc := 56) (μ' := mX12_byteAt) dX12_product_56 nX12_135 iX12_byteAt vX12_byteAt kX12_byteAt rfl rfl (rr (by omega) rfl) rfl ⟨Nat.zero_le _, Nat.zero_le _⟩ (fun _ q_ => cvq q_ (ct_M_next hm hu hb q h1)) ?_
          rw [← hsg]
          refine r_istore_n (pc := 59) dX12_product_59 rfl (Nat.le_of_ble_eq_true rfl) rfl ?_
          dsimp only [lset]
          refine r_aload_n (pc := 60) dX12_product_60 rfl ?_
          refine r_dup (pc := 61) dX12_product_61 rfl ?_
          refine r_getf (pc := 62) (k := 11) dX12_product_62 hX12 eX12 (by decide) fX12_132 (fun _ q => mo hm q) rfl ?_
          rw [q.2.1]
          refine r_iconst (pc := 65) (v := 1) dX12_product_65 (by decide) ?_
          refine r_iadd (pc := 66) dX12_product_66 ?_
          rw [nI_1]
          refine r_mp (pc := 67) (k := 11) hm dX12_product_67 fX12_132 (by decide) rfl rfl (fun _ _ => rfl) (fun _ _ => rfl) rfl ?_
          refine r_aload_n (pc := 70) dX12_product_70 rfl ?_
          refine r_Vi (pc := 71) (μ' := mX12_factor) dX12_product_71 nX12_162 iX12_factor vX12_factor kX12_factor rfl rfl (rr (by omega) rfl) rfl ⟨Nat.zero_le _, Nat.zero_le _⟩ (fun _ q_ => cvq q_ (hct m h _ A hm q.ad)) ?_
          refine aw_ex fun s2 => aw_pr fun q2 => ?_
          refine r_istore_n (pc := 74) dX12_product_74 rfl (Nat.le_of_ble_eq_true rfl) rfl ?_
          dsimp only [lset]
          refine r_iload_n (pc := 75) dX12_product_75 rfl ?_
          refine r_bipush (pc := 76) (v := 42) dX12_product_76 (by decide) ?_
          refine r_icmp_ne (pc := 78) 87 dX12_product_78 (by decide) (fun c78 => ?_) (fun c78 => ?_)
          · skip
            refine r_iload_n (pc := 87) dX12_product_87 rfl ?_
            refine r_if_ne (pc := 88) 95 dX12_product_88 (by decide) (fun c88 => ?_) (fun c88 => ?_)
            · skip
              refine r_iload_n (pc := 95) dX12_product_95 rfl ?_
              refine r_bipush (pc := 96) (v := 47) dX12_product_96 (by decide) ?_
              refine r_icmp_ne (pc := 98) 107 dX12_product_98 (by decide) (fun c98 => ?_) (fun c98 => ?_)
              · skip
                refine r_iload_n (pc := 107) dX12_product_107 rfl ?_
                refine r_iload_n (pc := 108) dX12_product_108 rfl ?_
                refine r_irem' (pc := 109) dX12_product_109 c88 ?_
                refine r_istore_n (pc := 110) dX12_product_110 rfl (Nat.le_of_ble_eq_true rfl) rfl ?_
                dsimp only [lset]
                refine r_goto (pc := 111) 5 dX12_product_111 (by decide) ?_
                refine aw_dr 2 rfl ?_; refine aw_dr 3 rfl ?_
                first
                | (rw [show x1 * w = joinI sg x1 w by rw [c78]; rfl]; exact hW m h s0 s2 A hm q2.1 ((q0.up (by omega)).tr q2.2))
                | (rw [show (0 : Int32) = joinI sg x1 w by rw [c88]; rcases List.mem_cons.mp hc.2 with e | e2; exact absurd e c78; rcases List.mem_cons.mp e2 with e | e3; rw [e]; rfl; rw [List.mem_singleton.mp e3]; rfl]; exact hW m h s0 s2 A hm q2.1 ((q0.up (by omega)).tr q2.2))
                | (rw [show x1 / w = joinI sg x1 w by rw [c98]; exact (if_neg c88).symm]; exact hW m h s0 s2 A hm q2.1 ((q0.up (by omega)).tr q2.2))
                | (rw [show x1 % w = joinI sg x1 w by rcases List.mem_cons.mp hc.2 with e | e2; exact absurd e c78; rcases List.mem_cons.mp e2 with e | e3; exact absurd e c98; rw [List.mem_singleton.mp e3]; exact (if_neg c88).symm]; exact hW m h s0 s2 A hm q2.1 ((q0.up (by omega)).tr q2.2))
              · skip
                refine r_iload_n (pc := 101) dX12_product_101 rfl ?_
                refine r_iload_n (pc := 102) dX12_product_102 rfl ?_
                refine r_idiv (pc := 103) dX12_product_103 c88 ?_
                refine r_goto (pc := 104) 110 dX12_product_104 (by decide) ?_
                refine r_istore_n (pc := 110) dX12_product_110 rfl (Nat.le_of_ble_eq_true rfl) rfl ?_
                dsimp only [lset]
                refine r_goto (pc := 111) 5 dX12_product_111 (by decide) ?_
                refine aw_dr 2 rfl ?_; refine aw_dr 3 rfl ?_
                first
                | (rw [show x1 * w = joinI sg x1 w by rw [c78]; rfl]; exact hW m h s0 s2 A hm q2.1 ((q0.up (by omega)).tr q2.2))
                | (rw [show (0 : Int32) = joinI sg x1 w by rw [c88]; rcases List.mem_cons.mp hc.2 with e | e2; exact absurd e c78; rcases List.mem_cons.mp e2 with e | e3; rw [e]; rfl; rw [List.mem_singleton.mp e3]; rfl]; exact hW m h s0 s2 A hm q2.1 ((q0.up (by omega)).tr q2.2))
                | (rw [show x1 / w = joinI sg x1 w by rw [c98]; exact (if_neg c88).symm]; exact hW m h s0 s2 A hm q2.1 ((q0.up (by omega)).tr q2.2))
                | (rw [show x1 % w = joinI sg x1 w by rcases List.mem_cons.mp hc.2 with e | e2; exact absurd e c78; rcases List.mem_cons.mp e2 with e | e3; exact absurd e c98; rw [List.mem_singleton.mp e3]; exact (if_neg c88).symm]; exact hW m h s0 s2 A hm q2.1 ((q0.up (by omega)).tr q2.2))
            · skip
              refine r_iconst (pc := 91) (v := 0) dX12_product_91 (by decide) ?_
              refine r_goto (pc := 92) 110 dX12_product_92 (by decide) ?_
              refine r_istore_n (pc := 110) dX12_product_110 rfl (Nat.le_of_ble_eq_true rfl) rfl ?_
              dsimp only [lset]
              refine r_goto (pc := 111) 5 dX12_product_111 (by decide) ?_
              refine aw_dr 2 rfl ?_; refine aw_dr 3 rfl ?_
              first
              | (rw [show x1 * w = joinI sg x1 w by rw [c78]; rfl]; exact hW m h s0 s2 A hm q2.1 ((q0.up (by omega)).tr q2.2))
              | (rw [show (0 : Int32) = joinI sg x1 w by rw [c88]; rcases List.mem_cons.mp hc.2 with e | e2; exact absurd e c78; rcases List.mem_cons.mp e2 with e | e3; rw [e]; rfl; rw [List.mem_singleton.mp e3]; rfl]; exact hW m h s0 s2 A hm q2.1 ((q0.up (by omega)).tr q2.2))
              | (rw [show x1 / w = joinI sg x1 w by rw [c98]; exact (if_neg c88).symm]; exact hW m h s0 s2 A hm q2.1 ((q0.up (by omega)).tr q2.2))
              | (rw [show x1 % w = joinI sg x1 w by rcases List.mem_cons.mp hc.2 with e | e2; exact absurd e c78; rcases List.mem_cons.mp e2 with e | e3; exact absurd e c98; rw [List.mem_singleton.mp e3]; exact (if_neg c88).symm]; exact hW m h s0 s2 A hm q2.1 ((q0.up (by omega)).tr q2.2))
          · skip
            refine r_iload_n (pc := 81) dX12_product_81 rfl ?_
            refine r_iload_n (pc := 82) dX12_product_82 rfl ?_
            refine r_imul (pc := 83) dX12_product_83 ?_
            refine r_goto (pc := 84) 110 dX12_product_84 (by decide) ?_
            refine r_istore_n (pc := 110) dX12_product_110 rfl (Nat.le_of_ble_eq_true rfl) rfl ?_
            dsimp only [lset]
            refine r_goto (pc := 111) 5 dX12_product_111 (by decide) ?_
            refine aw_dr 2 rfl ?_; refine aw_dr 3 rfl ?_
            first
            | (rw [show x1 * w = joinI sg x1 w by rw [c78]; rfl]; exact hW m h s0 s2 A hm q2.1 ((q0.up (by omega)).tr q2.2))
            | (rw [show (0 : Int32) = joinI sg x1 w by rw [c88]; rcases List.mem_cons.mp hc.2 with e | e2; exact absurd e c78; rcases List.mem_cons.mp e2 with e | e3; rw [e]; rfl; rw [List.mem_singleton.mp e3]; rfl]; exact hW m h s0 s2 A hm q2.1 ((q0.up (by omega)).tr q2.2))
            | (rw [show x1 / w = joinI sg x1 w by rw [c98]; exact (if_neg c88).symm]; exact hW m h s0 s2 A hm q2.1 ((q0.up (by omega)).tr q2.2))
            | (rw [show x1 % w = joinI sg x1 w by rcases List.mem_cons.mp hc.2 with e | e2; exact absurd e c78; rcases List.mem_cons.mp e2 with e | e3; exact absurd e c98; rw [List.mem_singleton.mp e3]; exact (if_neg c88).symm]; exact hW m h s0 s2 A hm q2.1 ((q0.up (by omega)).tr q2.2))
        refine r_aload_n (pc := 5) dX12_product_5 rfl ?_
        refine r_getf (pc := 6) (k := 17) dX12_product_6 hX12 eX12 (by decide) fX12_129 (fun _ q => mo hm q) rfl ?_
        rw [q.2.2.2.2.2.2.2.1]
        refine r_if_eq (pc := 9) 114 dX12_product_9 (by decide) (fun c9 => ?_) (fun c9 => ?_)
        · skip
          exact absurd hc.1 (by rw [b2i_0.mp c9]; exact Bool.false_ne_true)
        · skip
          refine r_aload_n (pc := 12) dX12_product_12 rfl ?_
          refine r_aload_n (pc := 13) dX12_product_13 rfl ?_
          refine r_getf (pc := 14) (k := 11) dX12_product_14 hX12 eX12 (by decide) fX12_132 (fun _ q => mo hm q) rfl ?_
          rw [q.2.1]
          refine r_Vi (pc := 17) (μ' := mX12_byteAt) dX12_product_17 nX12_135 iX12_byteAt vX12_byteAt kX12_byteAt rfl rfl (rr (by omega) rfl) rfl ⟨Nat.zero_le _, Nat.zero_le _⟩ (fun _ q_ => cvq q_ (ct_M_next hm hu hb q h1)) ?_
          refine r_bipush (pc := 20) (v := 42) dX12_product_20 (by decide) ?_
          rw [← hsg]
          refine r_icmp_eq (pc := 22) 51 dX12_product_22 (by decide) (fun c22 => ?_) (fun c22 => ?_)
          · skip
            exact T
          · skip
            refine r_aload_n (pc := 25) dX12_product_25 rfl ?_
            refine r_aload_n (pc := 26) dX12_product_26 rfl ?_
            refine r_getf (pc := 27) (k := 11) dX12_product_27 hX12 eX12 (by decide) fX12_132 (fun _ q => mo hm q) rfl ?_
            rw [q.2.1]
            refine r_Vi (pc := 30) (μ' := mX12_byteAt) dX12_product_30 nX12_135 iX12_byteAt vX12_byteAt kX12_byteAt rfl rfl (rr (by omega) rfl) rfl ⟨Nat.zero_le _, Nat.zero_le _⟩ (fun _ q_ => cvq q_ (ct_M_next hm hu hb q h1)) ?_
            refine r_bipush (pc := 33) (v := 47) dX12_product_33 (by decide) ?_
            rw [← hsg]
            refine r_icmp_eq (pc := 35) 51 dX12_product_35 (by decide) (fun c35 => ?_) (fun c35 => ?_)
            · skip
              exact T
            · skip
              refine r_aload_n (pc := 38) dX12_product_38 rfl ?_
              refine r_aload_n (pc := 39) dX12_product_39 rfl ?_
              refine r_getf (pc := 40) (k := 11) dX12_product_40 hX12 eX12 (by decide) fX12_132 (fun _ q => mo hm q) rfl ?_
              rw [q.2.1]
              refine r_Vi (pc := 43) (μ' := mX12_byteAt) dX12_product_43 nX12_135 iX12_byteAt vX12_byteAt kX12_byteAt rfl rfl (rr (by omega) rfl) rfl ⟨Nat.zero_le _, Nat.zero_le _⟩ (fun _ q_ => cvq q_ (ct_M_next hm hu hb q h1)) ?_
              refine r_bipush (pc := 46) (v := 37) dX12_product_46 (by decide) ?_
              rw [← hsg]
              refine r_icmp_ne (pc := 48) 114 dX12_product_48 (by decide) (fun c48 => ?_) (fun c48 => ?_)
              · skip
                exact absurd hc.2 (by simp [c22, c35, c48])
              · skip
                exact T
      · have ec : chainB bs [42, 47, 37] f (n + 1) σ = σ := if_neg hc
        rw [ec]
        refine ⟨x1, EvC.rf, fun m h s0 s A hm q q0 => ?_⟩
        refine r_aload_n (pc := 5) dX12_product_5 rfl ?_
        refine r_getf (pc := 6) (k := 17) dX12_product_6 hX12 eX12 (by decide) fX12_129 (fun _ q => mo hm q) rfl ?_
        rw [q.2.2.2.2.2.2.2.1]
        refine r_if_eq (pc := 9) 114 dX12_product_9 (by decide) (fun c9 => ?_) (fun c9 => ?_)
        · skip
          refine r_iload_n (pc := 114) dX12_product_114 rfl ?_
          refine r_ireturn (pc := 115) (ty := .int) dX12_product_115 rfl rfl ⟨Nat.zero_le _, Nat.zero_le _⟩ (fun gE hg => ?_)
          exact ⟨rfl, s, ⟨q, q0⟩, hg⟩
        · skip
          have hg9 := b2i_n0.mp c9
          refine r_aload_n (pc := 12) dX12_product_12 rfl ?_
          refine r_aload_n (pc := 13) dX12_product_13 rfl ?_
          refine r_getf (pc := 14) (k := 11) dX12_product_14 hX12 eX12 (by decide) fX12_132 (fun _ q => mo hm q) rfl ?_
          rw [q.2.1]
          refine r_Vi (pc := 17) (μ' := mX12_byteAt) dX12_product_17 nX12_135 iX12_byteAt vX12_byteAt kX12_byteAt rfl rfl (rr (by omega) rfl) rfl ⟨Nat.zero_le _, Nat.zero_le _⟩ (fun _ q_ => cvq q_ (ct_M_next hm hu hb q h1)) ?_
          refine r_bipush (pc := 20) (v := 42) dX12_product_20 (by decide) ?_
          refine r_icmp_eq (pc := 22) 51 dX12_product_22 (by decide) (fun c22 => ?_) (fun c22 => ?_)
          · skip
            exact absurd ⟨hg9, by rw [c22]; decide⟩ hc
          · skip
            refine r_aload_n (pc := 25) dX12_product_25 rfl ?_
            refine r_aload_n (pc := 26) dX12_product_26 rfl ?_
            refine r_getf (pc := 27) (k := 11) dX12_product_27 hX12 eX12 (by decide) fX12_132 (fun _ q => mo hm q) rfl ?_
            rw [q.2.1]
            refine r_Vi (pc := 30) (μ' := mX12_byteAt) dX12_product_30 nX12_135 iX12_byteAt vX12_byteAt kX12_byteAt rfl rfl (rr (by omega) rfl) rfl ⟨Nat.zero_le _, Nat.zero_le _⟩ (fun _ q_ => cvq q_ (ct_M_next hm hu hb q h1)) ?_
            refine r_bipush (pc := 33) (v := 47) dX12_product_33 (by decide) ?_
            refine r_icmp_eq (pc := 35) 51 dX12_product_35 (by decide) (fun c35 => ?_) (fun c35 => ?_)
            · skip
              exact absurd ⟨hg9, by rw [c35]; decide⟩ hc
            · skip
              refine r_aload_n (pc := 38) dX12_product_38 rfl ?_
              refine r_aload_n (pc := 39) dX12_product_39 rfl ?_
              refine r_getf (pc := 40) (k := 11) dX12_product_40 hX12 eX12 (by decide) fX12_132 (fun _ q => mo hm q) rfl ?_
              rw [q.2.1]
              refine r_Vi (pc := 43) (μ' := mX12_byteAt) dX12_product_43 nX12_135 iX12_byteAt vX12_byteAt kX12_byteAt rfl rfl (rr (by omega) rfl) rfl ⟨Nat.zero_le _, Nat.zero_le _⟩ (fun _ q_ => cvq q_ (ct_M_next hm hu hb q h1)) ?_
              refine r_bipush (pc := 46) (v := 37) dX12_product_46 (by decide) ?_
              refine r_icmp_ne (pc := 48) 114 dX12_product_48 (by decide) (fun c48 => ?_) (fun c48 => ?_)
              · skip
                refine r_iload_n (pc := 114) dX12_product_114 rfl ?_
                refine r_ireturn (pc := 115) (ty := .int) dX12_product_115 rfl rfl ⟨Nat.zero_le _, Nat.zero_le _⟩ (fun gE hg => ?_)
                exact ⟨rfl, s, ⟨q, q0⟩, hg⟩
              · skip
                exact absurd ⟨hg9, by rw [c48]; decide⟩ hc
  intro σ h1 h2 h3
  obtain ⟨x, hx, hct⟩ := hE σ h1 h2 h3
  obtain ⟨p1, p2, p3⟩ := hp σ h1 h3
  obtain ⟨x2, he, hW⟩ := L 50 (f σ) p1 (p3 0 h2) (by omega) x
  refine ⟨x2, hx.C (fun g => chain_g g) he, fun m h s A hm q => ⟨mV hm, ?_⟩⟩
  refine ct_of (by decide) (fun _ _ => Nat.le_of_ble_eq_true rfl) ?_
  dsimp only [pad, ent]
  refine aw_P (P' := MP m h s A) (fun _ q => q) ?_
  refine r_aload_n (pc := 0) dX12_product_0 rfl ?_
  refine r_Vi (pc := 1) (μ' := mX12_factor) dX12_product_1 nX12_162 iX12_factor vX12_factor kX12_factor rfl rfl (rr (by omega) rfl) rfl ⟨Nat.zero_le _, Nat.zero_le _⟩ (fun _ q_ => cvq q_ (hct m h s A hm q)) ?_
  refine aw_ex fun s2 => aw_pr fun q2 => ?_
  refine r_istore_n (pc := 4) dX12_product_4 rfl (Nat.le_of_ble_eq_true rfl) rfl ?_
  dsimp only [lset]
  exact hW m h s s2 A hm q2.1 q2.2
set_option maxHeartbeats 8000000 in
theorem ct_M_sum {D : Nat} {f : RS → RS} (hD : 3 ≤ D) (hu : u < 2) (hb : bs.length ≤ 50) (hp : PF bs f) (hE : MdC u na nb nc bs op D mX12_product f) : MdC u na nb nc bs op (D + 1) mX12_sum (loopB bs [43, 45] f) := by
  have L : ∀ (n : Nat) (σ : RS), σ.1 ≤ bs.length → σ.2.2.length ≤ σ.1 → bs.length - σ.1 ≤ n → ∀ x1 : Int32, ∃ x2, EvC na nb nc σ (chainB bs [43, 45] f n σ) x1 x2 ∧ ∀ (m : Nat) (h : AH) (s0 s : Nat → Int32) (A : Nat → Nat → Int32), m + 14 < h.1 → MdS u na nb nc bs op σ s A → sFr s0 s → AW (fun _ => True) (rmd (D + 1) 0 0) mX12_sum 0 0 5 [some (.ref m), some (.int x1), none, none] [] (MP m h s A) (fun v g => v = some (.int x2) ∧ ∃ s2, (MdS u na nb nc bs op (chainB bs [43, 45] f n σ) s2 A ∧ sFr s0 s2) ∧ MP m h s2 A g) := by
    intro n
    induction n with
    | zero =>
      intro σ h1 h2 h3 x1
      refine ⟨x1, EvC.rf, fun m h s0 s A hm q q0 => ?_⟩
      have hnx : nxB bs σ = -1 := by unfold nxB; rw [if_neg (by omega)]
      refine r_aload_n (pc := 5) dX12_sum_5 rfl ?_
      refine r_getf (pc := 6) (k := 17) dX12_sum_6 hX12 eX12 (by decide) fX12_129 (fun _ q => mo hm q) rfl ?_
      rw [q.2.2.2.2.2.2.2.1]
      refine r_if_eq (pc := 9) 81 dX12_sum_9 (by decide) (fun c9 => ?_) (fun c9 => ?_)
      · skip
        refine r_iload_n (pc := 81) dX12_sum_81 rfl ?_
        refine r_ireturn (pc := 82) (ty := .int) dX12_sum_82 rfl rfl ⟨Nat.zero_le _, Nat.zero_le _⟩ (fun gE hg => ?_)
        exact ⟨rfl, s, ⟨q, q0⟩, hg⟩
      · skip
        refine r_aload_n (pc := 12) dX12_sum_12 rfl ?_
        refine r_aload_n (pc := 13) dX12_sum_13 rfl ?_
        refine r_getf (pc := 14) (k := 11) dX12_sum_14 hX12 eX12 (by decide) fX12_132 (fun _ q => mo hm q) rfl ?_
        rw [q.2.1]
        refine r_Vi (pc := 17) (μ' := mX12_byteAt) dX12_sum_17 nX12_135 iX12_byteAt vX12_byteAt kX12_byteAt rfl rfl (rr (by omega) rfl) rfl ⟨Nat.zero_le _, Nat.zero_le _⟩ (fun _ q_ => cvq q_ (ct_M_next hm hu hb q h1)) ?_
        refine r_bipush (pc := 20) (v := 43) dX12_sum_20 (by decide) ?_
        rw [hnx]
        refine r_icmp_eq (pc := 22) 38 dX12_sum_22 (by decide) (fun c22 => ?_) (fun c22 => ?_)
        · skip
          exact absurd c22 (by decide)
        · skip
          refine r_aload_n (pc := 25) dX12_sum_25 rfl ?_
          refine r_aload_n (pc := 26) dX12_sum_26 rfl ?_
          refine r_getf (pc := 27) (k := 11) dX12_sum_27 hX12 eX12 (by decide) fX12_132 (fun _ q => mo hm q) rfl ?_
          rw [q.2.1]
          refine r_Vi (pc := 30) (μ' := mX12_byteAt) dX12_sum_30 nX12_135 iX12_byteAt vX12_byteAt kX12_byteAt rfl rfl (rr (by omega) rfl) rfl ⟨Nat.zero_le _, Nat.zero_le _⟩ (fun _ q_ => cvq q_ (ct_M_next hm hu hb q h1)) ?_
          refine r_bipush (pc := 33) (v := 45) dX12_sum_33 (by decide) ?_
          rw [hnx]
          refine r_icmp_ne (pc := 35) 81 dX12_sum_35 (by decide) (fun c35 => ?_) (fun c35 => ?_)
          · skip
            refine r_iload_n (pc := 81) dX12_sum_81 rfl ?_
            refine r_ireturn (pc := 82) (ty := .int) dX12_sum_82 rfl rfl ⟨Nat.zero_le _, Nat.zero_le _⟩ (fun gE hg => ?_)
            exact ⟨rfl, s, ⟨q, q0⟩, hg⟩
          · skip
            exact absurd c35 (by decide)
    | succ n ih =>
      intro σ h1 h2 h3 x1
      by_cases hc : σ.2.1 = true ∧ nxB bs σ ∈ [43, 45]
      · have hlt := nx_in hc.2 (by decide)
        obtain ⟨w, hw, hct⟩ := hE (adB σ) hlt (by show σ.2.2.length ≤ σ.1 + 1; omega) hc.1
        obtain ⟨p1, p2, p3⟩ := hp (adB σ) hlt hc.1
        have p2 : σ.1 + 1 ≤ (f (adB σ)).1 := p2
        have p4 := p3 1 (by show σ.2.2.length + 1 ≤ σ.1 + 1; omega)
        obtain ⟨sg, hsg⟩ : ∃ sg, sg = nxB bs σ := ⟨_, rfl⟩
        rw [← hsg] at hc
        have ho : sg ∈ opsL := (show ∀ z, z ∈ ([43, 45] : List Int32) → z ∈ opsL by decide) sg hc.2
        have hle : (emB sg (f (adB σ))).2.2.length ≤ (f (adB σ)).2.2.length + 1 := addL_le
        obtain ⟨x2, he, hW⟩ := ih (emB sg (f (adB σ))) p1 (by show _ ≤ (f (adB σ)).1; omega) (by show bs.length - (f (adB σ)).1 ≤ n; omega) (joinI sg x1 w)
        have ec : chainB bs [43, 45] f (n + 1) σ = chainB bs [43, 45] f n (emB sg (f (adB σ))) := by
          show (if σ.2.1 = true ∧ nxB bs σ ∈ _ then _ else _) = _
          rw [← hsg, if_pos hc]
        rw [ec]
        refine ⟨x2, (EvR.op ho (by omega) hw).tr (fun g => chain_g g) he, fun m h s0 s A hm q q0 => ?_⟩
        have T : AW (fun _ => True) (rmd (D + 1) 0 0) mX12_sum 0 0 38 [some (.ref m), some (.int x1), none, none] [] (MP m h s A) (fun v g => v = some (.int x2) ∧ ∃ s2, (MdS u na nb nc bs op (chainB bs [43, 45] f n (emB sg (f (adB σ)))) s2 A ∧ sFr s0 s2) ∧ MP m h s2 A g) := by
          refine r_aload_n (pc := 38) dX12_sum_38 rfl ?_
          refine r_aload_n (pc := 39) dX12_sum_39 rfl ?_
          refine r_getf (pc := 40) (k := 11) dX12_sum_40 hX12 eX12 (by decide) fX12_132 (fun _ q => mo hm q) rfl ?_
          rw [q.2.1]
          refine r_Vi (pc := 43) (μ' := mX12_byteAt) dX12_sum_43 nX12_135 iX12_byteAt vX12_byteAt kX12_byteAt rfl rfl (rr (by omega) rfl) rfl ⟨Nat.zero_le _, Nat.zero_le _⟩ (fun _ q_ => cvq q_ (ct_M_next hm hu hb q h1)) ?_
          rw [← hsg]
          refine r_istore_n (pc := 46) dX12_sum_46 rfl (Nat.le_of_ble_eq_true rfl) rfl ?_
          dsimp only [lset]
          refine r_aload_n (pc := 47) dX12_sum_47 rfl ?_
          refine r_dup (pc := 48) dX12_sum_48 rfl ?_
          refine r_getf (pc := 49) (k := 11) dX12_sum_49 hX12 eX12 (by decide) fX12_132 (fun _ q => mo hm q) rfl ?_
          rw [q.2.1]
          refine r_iconst (pc := 52) (v := 1) dX12_sum_52 (by decide) ?_
          refine r_iadd (pc := 53) dX12_sum_53 ?_
          rw [nI_1]
          refine r_mp (pc := 54) (k := 11) hm dX12_sum_54 fX12_132 (by decide) rfl rfl (fun _ _ => rfl) (fun _ _ => rfl) rfl ?_
          refine r_aload_n (pc := 57) dX12_sum_57 rfl ?_
          refine r_Vi (pc := 58) (μ' := mX12_product) dX12_sum_58 nX12_168 iX12_product vX12_product kX12_product rfl rfl (rr (by omega) rfl) rfl ⟨Nat.zero_le _, Nat.zero_le _⟩ (fun _ q_ => cvq q_ (hct m h _ A hm q.ad)) ?_
          refine aw_ex fun s2 => aw_pr fun q2 => ?_
          refine r_istore_n (pc := 61) dX12_sum_61 rfl (Nat.le_of_ble_eq_true rfl) rfl ?_
          dsimp only [lset]
          refine r_iload_n (pc := 62) dX12_sum_62 rfl ?_
          refine r_bipush (pc := 63) (v := 43) dX12_sum_63 (by decide) ?_
          refine r_icmp_ne (pc := 65) 74 dX12_sum_65 (by decide) (fun c65 => ?_) (fun c65 => ?_)
          · skip
            refine r_iload_n (pc := 74) dX12_sum_74 rfl ?_
            refine r_iload_n (pc := 75) dX12_sum_75 rfl ?_
            refine r_isub (pc := 76) dX12_sum_76 ?_
            refine r_istore_n (pc := 77) dX12_sum_77 rfl (Nat.le_of_ble_eq_true rfl) rfl ?_
            dsimp only [lset]
            refine r_goto (pc := 78) 5 dX12_sum_78 (by decide) ?_
            refine aw_dr 2 rfl ?_; refine aw_dr 3 rfl ?_
            first
            | (rw [show x1 + w = joinI sg x1 w by rw [c65]; rfl]; exact hW m h s0 s2 A hm q2.1 ((q0.up (by omega)).tr q2.2))
            | (rw [show x1 - w = joinI sg x1 w by rcases List.mem_cons.mp hc.2 with e | e2; exact absurd e c65; rw [List.mem_singleton.mp e2]; rfl]; exact hW m h s0 s2 A hm q2.1 ((q0.up (by omega)).tr q2.2))
          · skip
            refine r_iload_n (pc := 68) dX12_sum_68 rfl ?_
            refine r_iload_n (pc := 69) dX12_sum_69 rfl ?_
            refine r_iadd (pc := 70) dX12_sum_70 ?_
            refine r_goto (pc := 71) 77 dX12_sum_71 (by decide) ?_
            refine r_istore_n (pc := 77) dX12_sum_77 rfl (Nat.le_of_ble_eq_true rfl) rfl ?_
            dsimp only [lset]
            refine r_goto (pc := 78) 5 dX12_sum_78 (by decide) ?_
            refine aw_dr 2 rfl ?_; refine aw_dr 3 rfl ?_
            first
            | (rw [show x1 + w = joinI sg x1 w by rw [c65]; rfl]; exact hW m h s0 s2 A hm q2.1 ((q0.up (by omega)).tr q2.2))
            | (rw [show x1 - w = joinI sg x1 w by rcases List.mem_cons.mp hc.2 with e | e2; exact absurd e c65; rw [List.mem_singleton.mp e2]; rfl]; exact hW m h s0 s2 A hm q2.1 ((q0.up (by omega)).tr q2.2))
        refine r_aload_n (pc := 5) dX12_sum_5 rfl ?_
        refine r_getf (pc := 6) (k := 17) dX12_sum_6 hX12 eX12 (by decide) fX12_129 (fun _ q => mo hm q) rfl ?_
        rw [q.2.2.2.2.2.2.2.1]
        refine r_if_eq (pc := 9) 81 dX12_sum_9 (by decide) (fun c9 => ?_) (fun c9 => ?_)
        · skip
          exact absurd hc.1 (by rw [b2i_0.mp c9]; exact Bool.false_ne_true)
        · skip
          refine r_aload_n (pc := 12) dX12_sum_12 rfl ?_
          refine r_aload_n (pc := 13) dX12_sum_13 rfl ?_
          refine r_getf (pc := 14) (k := 11) dX12_sum_14 hX12 eX12 (by decide) fX12_132 (fun _ q => mo hm q) rfl ?_
          rw [q.2.1]
          refine r_Vi (pc := 17) (μ' := mX12_byteAt) dX12_sum_17 nX12_135 iX12_byteAt vX12_byteAt kX12_byteAt rfl rfl (rr (by omega) rfl) rfl ⟨Nat.zero_le _, Nat.zero_le _⟩ (fun _ q_ => cvq q_ (ct_M_next hm hu hb q h1)) ?_
          refine r_bipush (pc := 20) (v := 43) dX12_sum_20 (by decide) ?_
          rw [← hsg]
          refine r_icmp_eq (pc := 22) 38 dX12_sum_22 (by decide) (fun c22 => ?_) (fun c22 => ?_)
          · skip
            exact T
          · skip
            refine r_aload_n (pc := 25) dX12_sum_25 rfl ?_
            refine r_aload_n (pc := 26) dX12_sum_26 rfl ?_
            refine r_getf (pc := 27) (k := 11) dX12_sum_27 hX12 eX12 (by decide) fX12_132 (fun _ q => mo hm q) rfl ?_
            rw [q.2.1]
            refine r_Vi (pc := 30) (μ' := mX12_byteAt) dX12_sum_30 nX12_135 iX12_byteAt vX12_byteAt kX12_byteAt rfl rfl (rr (by omega) rfl) rfl ⟨Nat.zero_le _, Nat.zero_le _⟩ (fun _ q_ => cvq q_ (ct_M_next hm hu hb q h1)) ?_
            refine r_bipush (pc := 33) (v := 45) dX12_sum_33 (by decide) ?_
            rw [← hsg]
            refine r_icmp_ne (pc := 35) 81 dX12_sum_35 (by decide) (fun c35 => ?_) (fun c35 => ?_)
            · skip
              exact absurd hc.2 (by simp [c22, c35])
            · skip
              exact T
      · have ec : chainB bs [43, 45] f (n + 1) σ = σ := if_neg hc
        rw [ec]
        refine ⟨x1, EvC.rf, fun m h s0 s A hm q q0 => ?_⟩
        refine r_aload_n (pc := 5) dX12_sum_5 rfl ?_
        refine r_getf (pc := 6) (k := 17) dX12_sum_6 hX12 eX12 (by decide) fX12_129 (fun _ q => mo hm q) rfl ?_
        rw [q.2.2.2.2.2.2.2.1]
        refine r_if_eq (pc := 9) 81 dX12_sum_9 (by decide) (fun c9 => ?_) (fun c9 => ?_)
        · skip
          refine r_iload_n (pc := 81) dX12_sum_81 rfl ?_
          refine r_ireturn (pc := 82) (ty := .int) dX12_sum_82 rfl rfl ⟨Nat.zero_le _, Nat.zero_le _⟩ (fun gE hg => ?_)
          exact ⟨rfl, s, ⟨q, q0⟩, hg⟩
        · skip
          have hg9 := b2i_n0.mp c9
          refine r_aload_n (pc := 12) dX12_sum_12 rfl ?_
          refine r_aload_n (pc := 13) dX12_sum_13 rfl ?_
          refine r_getf (pc := 14) (k := 11) dX12_sum_14 hX12 eX12 (by decide) fX12_132 (fun _ q => mo hm q) rfl ?_
          rw [q.2.1]
          refine r_Vi (pc := 17) (μ' := mX12_byteAt) dX12_sum_17 nX12_135 iX12_byteAt vX12_byteAt kX12_byteAt rfl rfl (rr (by omega) rfl) rfl ⟨Nat.zero_le _, Nat.zero_le _⟩ (fun _ q_ => cvq q_ (ct_M_next hm hu hb q h1)) ?_
          refine r_bipush (pc := 20) (v := 43) dX12_sum_20 (by decide) ?_
          refine r_icmp_eq (pc := 22) 38 dX12_sum_22 (by decide) (fun c22 => ?_) (fun c22 => ?_)
          · skip
            exact absurd ⟨hg9, by rw [c22]; decide⟩ hc
          · skip
            refine r_aload_n (pc := 25) dX12_sum_25 rfl ?_
            refine r_aload_n (pc := 26) dX12_sum_26 rfl ?_
            refine r_getf (pc := 27) (k := 11) dX12_sum_27 hX12 eX12 (by decide) fX12_132 (fun _ q => mo hm q) rfl ?_
            rw [q.2.1]
            refine r_Vi (pc := 30) (μ' := mX12_byteAt) dX12_sum_30 nX12_135 iX12_byteAt vX12_byteAt kX12_byteAt rfl rfl (rr (by omega) rfl) rfl ⟨Nat.zero_le _, Nat.zero_le _⟩ (fun _ q_ => cvq q_ (ct_M_next hm hu hb q h1)) ?_
            refine r_bipush (pc := 33) (v := 45) dX12_sum_33 (by decide) ?_
            refine r_icmp_ne (pc := 35) 81 dX12_sum_35 (by decide) (fun c35 => ?_) (fun c35 => ?_)
            · skip
              refine r_iload_n (pc := 81) dX12_sum_81 rfl ?_
              refine r_ireturn (pc := 82) (ty := .int) dX12_sum_82 rfl rfl ⟨Nat.zero_le _, Nat.zero_le _⟩ (fun gE hg => ?_)
              exact ⟨rfl, s, ⟨q, q0⟩, hg⟩
            · skip
              exact absurd ⟨hg9, by rw [c35]; decide⟩ hc
  intro σ h1 h2 h3
  obtain ⟨x, hx, hct⟩ := hE σ h1 h2 h3
  obtain ⟨p1, p2, p3⟩ := hp σ h1 h3
  obtain ⟨x2, he, hW⟩ := L 50 (f σ) p1 (p3 0 h2) (by omega) x
  refine ⟨x2, hx.C (fun g => chain_g g) he, fun m h s A hm q => ⟨mV hm, ?_⟩⟩
  refine ct_of (by decide) (fun _ _ => Nat.le_of_ble_eq_true rfl) ?_
  dsimp only [pad, ent]
  refine aw_P (P' := MP m h s A) (fun _ q => q) ?_
  refine r_aload_n (pc := 0) dX12_sum_0 rfl ?_
  refine r_Vi (pc := 1) (μ' := mX12_product) dX12_sum_1 nX12_168 iX12_product vX12_product kX12_product rfl rfl (rr (by omega) rfl) rfl ⟨Nat.zero_le _, Nat.zero_le _⟩ (fun _ q_ => cvq q_ (hct m h s A hm q)) ?_
  refine aw_ex fun s2 => aw_pr fun q2 => ?_
  refine r_istore_n (pc := 4) dX12_sum_4 rfl (Nat.le_of_ble_eq_true rfl) rfl ?_
  dsimp only [lset]
  exact hW m h s s2 A hm q2.1 q2.2
set_option maxHeartbeats 8000000 in
theorem ct_M_both {D : Nat} {f : RS → RS} (hD : 3 ≤ D) (hu : u < 2) (hb : bs.length ≤ 50) (hp : PF bs f) (hE : MdC u na nb nc bs op D mX12_compared f) : MdC u na nb nc bs op (D + 1) mX12_both (loopB bs [38] f) := by
  have L : ∀ (n : Nat) (σ : RS), σ.1 ≤ bs.length → σ.2.2.length ≤ σ.1 → bs.length - σ.1 ≤ n → ∀ x1 : Int32, ∃ x2, EvC na nb nc σ (chainB bs [38] f n σ) x1 x2 ∧ ∀ (m : Nat) (h : AH) (s0 s : Nat → Int32) (A : Nat → Nat → Int32), m + 14 < h.1 → MdS u na nb nc bs op σ s A → sFr s0 s → AW (fun _ => True) (rmd (D + 1) 0 0) mX12_both 0 0 5 [some (.ref m), some (.int x1), none] [] (MP m h s A) (fun v g => v = some (.int x2) ∧ ∃ s2, (MdS u na nb nc bs op (chainB bs [38] f n σ) s2 A ∧ sFr s0 s2) ∧ MP m h s2 A g) := by
    intro n
    induction n with
    | zero =>
      intro σ h1 h2 h3 x1
      refine ⟨x1, EvC.rf, fun m h s0 s A hm q q0 => ?_⟩
      have hnx : nxB bs σ = -1 := by unfold nxB; rw [if_neg (by omega)]
      refine r_aload_n (pc := 5) dX12_both_5 rfl ?_
      refine r_getf (pc := 6) (k := 17) dX12_both_6 hX12 eX12 (by decide) fX12_129 (fun _ q => mo hm q) rfl ?_
      rw [q.2.2.2.2.2.2.2.1]
      refine r_if_eq (pc := 9) 57 dX12_both_9 (by decide) (fun c9 => ?_) (fun c9 => ?_)
      · skip
        refine r_iload_n (pc := 57) dX12_both_57 rfl ?_
        refine r_ireturn (pc := 58) (ty := .int) dX12_both_58 rfl rfl ⟨Nat.zero_le _, Nat.zero_le _⟩ (fun gE hg => ?_)
        exact ⟨rfl, s, ⟨q, q0⟩, hg⟩
      · skip
        refine r_aload_n (pc := 12) dX12_both_12 rfl ?_
        refine r_aload_n (pc := 13) dX12_both_13 rfl ?_
        refine r_getf (pc := 14) (k := 11) dX12_both_14 hX12 eX12 (by decide) fX12_132 (fun _ q => mo hm q) rfl ?_
        rw [q.2.1]
        refine r_Vi (pc := 17) (μ' := mX12_byteAt) dX12_both_17 nX12_135 iX12_byteAt vX12_byteAt kX12_byteAt rfl rfl (rr (by omega) rfl) rfl ⟨Nat.zero_le _, Nat.zero_le _⟩ (fun _ q_ => cvq q_ (ct_M_next hm hu hb q h1)) ?_
        refine r_bipush (pc := 20) (v := 38) dX12_both_20 (by decide) ?_
        rw [hnx]
        refine r_icmp_ne (pc := 22) 57 dX12_both_22 (by decide) (fun c22 => ?_) (fun c22 => ?_)
        · skip
          refine r_iload_n (pc := 57) dX12_both_57 rfl ?_
          refine r_ireturn (pc := 58) (ty := .int) dX12_both_58 rfl rfl ⟨Nat.zero_le _, Nat.zero_le _⟩ (fun gE hg => ?_)
          exact ⟨rfl, s, ⟨q, q0⟩, hg⟩
        · skip
          exact absurd c22 (by decide)
    | succ n ih =>
      intro σ h1 h2 h3 x1
      by_cases hc : σ.2.1 = true ∧ nxB bs σ ∈ [38]
      · have hlt := nx_in hc.2 (by decide)
        obtain ⟨w, hw, hct⟩ := hE (adB σ) hlt (by show σ.2.2.length ≤ σ.1 + 1; omega) hc.1
        obtain ⟨p1, p2, p3⟩ := hp (adB σ) hlt hc.1
        have p2 : σ.1 + 1 ≤ (f (adB σ)).1 := p2
        have p4 := p3 1 (by show σ.2.2.length + 1 ≤ σ.1 + 1; omega)
        obtain ⟨sg, hsg⟩ : ∃ sg, sg = nxB bs σ := ⟨_, rfl⟩
        rw [← hsg] at hc
        have ho : sg ∈ opsL := (show ∀ z, z ∈ ([38] : List Int32) → z ∈ opsL by decide) sg hc.2
        have hle : (emB sg (f (adB σ))).2.2.length ≤ (f (adB σ)).2.2.length + 1 := addL_le
        obtain ⟨x2, he, hW⟩ := ih (emB sg (f (adB σ))) p1 (by show _ ≤ (f (adB σ)).1; omega) (by show bs.length - (f (adB σ)).1 ≤ n; omega) (joinI sg x1 w)
        have ec : chainB bs [38] f (n + 1) σ = chainB bs [38] f n (emB sg (f (adB σ))) := by
          show (if σ.2.1 = true ∧ nxB bs σ ∈ _ then _ else _) = _
          rw [← hsg, if_pos hc]
        rw [ec]
        refine ⟨x2, (EvR.op ho (by omega) hw).tr (fun g => chain_g g) he, fun m h s0 s A hm q q0 => ?_⟩
        have T : AW (fun _ => True) (rmd (D + 1) 0 0) mX12_both 0 0 25 [some (.ref m), some (.int x1), none] [] (MP m h s A) (fun v g => v = some (.int x2) ∧ ∃ s2, (MdS u na nb nc bs op (chainB bs [38] f n (emB sg (f (adB σ)))) s2 A ∧ sFr s0 s2) ∧ MP m h s2 A g) := by
          refine r_aload_n (pc := 25) dX12_both_25 rfl ?_
          refine r_dup (pc := 26) dX12_both_26 rfl ?_
          refine r_getf (pc := 27) (k := 11) dX12_both_27 hX12 eX12 (by decide) fX12_132 (fun _ q => mo hm q) rfl ?_
          rw [q.2.1]
          refine r_iconst (pc := 30) (v := 1) dX12_both_30 (by decide) ?_
          refine r_iadd (pc := 31) dX12_both_31 ?_
          rw [nI_1]
          refine r_mp (pc := 32) (k := 11) hm dX12_both_32 fX12_132 (by decide) rfl rfl (fun _ _ => rfl) (fun _ _ => rfl) rfl ?_
          refine r_aload_n (pc := 35) dX12_both_35 rfl ?_
          refine r_Vi (pc := 36) (μ' := mX12_compared) dX12_both_36 nX12_174 iX12_compared vX12_compared kX12_compared rfl rfl (rr (by omega) rfl) rfl ⟨Nat.zero_le _, Nat.zero_le _⟩ (fun _ q_ => cvq q_ (hct m h _ A hm q.ad)) ?_
          refine aw_ex fun s2 => aw_pr fun q2 => ?_
          refine r_istore_n (pc := 39) dX12_both_39 rfl (Nat.le_of_ble_eq_true rfl) rfl ?_
          dsimp only [lset]
          refine r_iload_n (pc := 40) dX12_both_40 rfl ?_
          refine r_if_eq (pc := 41) 52 dX12_both_41 (by decide) (fun c41 => ?_) (fun c41 => ?_)
          · skip
            refine r_iconst (pc := 52) (v := 0) dX12_both_52 (by decide) ?_
            refine r_istore_n (pc := 53) dX12_both_53 rfl (Nat.le_of_ble_eq_true rfl) rfl ?_
            dsimp only [lset]
            refine r_goto (pc := 54) 5 dX12_both_54 (by decide) ?_
            refine aw_dr 2 rfl ?_
            first
            | (rw [show (0 : Int32) = joinI sg x1 w by rw [List.mem_singleton.mp hc.2]; exact (if_pos c41).symm]; exact hW m h s0 s2 A hm q2.1 ((q0.up (by omega)).tr q2.2))
            | (rw [show (0 : Int32) = joinI sg x1 w by rw [List.mem_singleton.mp hc.2]; exact ((if_neg c41).trans (if_pos c45)).symm]; exact hW m h s0 s2 A hm q2.1 ((q0.up (by omega)).tr q2.2))
            | (rw [show (1 : Int32) = joinI sg x1 w by rw [List.mem_singleton.mp hc.2]; exact ((if_neg c41).trans (if_neg c45)).symm]; exact hW m h s0 s2 A hm q2.1 ((q0.up (by omega)).tr q2.2))
          · skip
            refine r_iload_n (pc := 44) dX12_both_44 rfl ?_
            refine r_if_eq (pc := 45) 52 dX12_both_45 (by decide) (fun c45 => ?_) (fun c45 => ?_)
            · skip
              refine r_iconst (pc := 52) (v := 0) dX12_both_52 (by decide) ?_
              refine r_istore_n (pc := 53) dX12_both_53 rfl (Nat.le_of_ble_eq_true rfl) rfl ?_
              dsimp only [lset]
              refine r_goto (pc := 54) 5 dX12_both_54 (by decide) ?_
              refine aw_dr 2 rfl ?_
              first
              | (rw [show (0 : Int32) = joinI sg x1 w by rw [List.mem_singleton.mp hc.2]; exact (if_pos c41).symm]; exact hW m h s0 s2 A hm q2.1 ((q0.up (by omega)).tr q2.2))
              | (rw [show (0 : Int32) = joinI sg x1 w by rw [List.mem_singleton.mp hc.2]; exact ((if_neg c41).trans (if_pos c45)).symm]; exact hW m h s0 s2 A hm q2.1 ((q0.up (by omega)).tr q2.2))
              | (rw [show (1 : Int32) = joinI sg x1 w by rw [List.mem_singleton.mp hc.2]; exact ((if_neg c41).trans (if_neg c45)).symm]; exact hW m h s0 s2 A hm q2.1 ((q0.up (by omega)).tr q2.2))
            · skip
              refine r_iconst (pc := 48) (v := 1) dX12_both_48 (by decide) ?_
              refine r_goto (pc := 49) 53 dX12_both_49 (by decide) ?_
              refine r_istore_n (pc := 53) dX12_both_53 rfl (Nat.le_of_ble_eq_true rfl) rfl ?_
              dsimp only [lset]
              refine r_goto (pc := 54) 5 dX12_both_54 (by decide) ?_
              refine aw_dr 2 rfl ?_
              first
              | (rw [show (0 : Int32) = joinI sg x1 w by rw [List.mem_singleton.mp hc.2]; exact (if_pos c41).symm]; exact hW m h s0 s2 A hm q2.1 ((q0.up (by omega)).tr q2.2))
              | (rw [show (0 : Int32) = joinI sg x1 w by rw [List.mem_singleton.mp hc.2]; exact ((if_neg c41).trans (if_pos c45)).symm]; exact hW m h s0 s2 A hm q2.1 ((q0.up (by omega)).tr q2.2))
              | (rw [show (1 : Int32) = joinI sg x1 w by rw [List.mem_singleton.mp hc.2]; exact ((if_neg c41).trans (if_neg c45)).symm]; exact hW m h s0 s2 A hm q2.1 ((q0.up (by omega)).tr q2.2))
        refine r_aload_n (pc := 5) dX12_both_5 rfl ?_
        refine r_getf (pc := 6) (k := 17) dX12_both_6 hX12 eX12 (by decide) fX12_129 (fun _ q => mo hm q) rfl ?_
        rw [q.2.2.2.2.2.2.2.1]
        refine r_if_eq (pc := 9) 57 dX12_both_9 (by decide) (fun c9 => ?_) (fun c9 => ?_)
        · skip
          exact absurd hc.1 (by rw [b2i_0.mp c9]; exact Bool.false_ne_true)
        · skip
          refine r_aload_n (pc := 12) dX12_both_12 rfl ?_
          refine r_aload_n (pc := 13) dX12_both_13 rfl ?_
          refine r_getf (pc := 14) (k := 11) dX12_both_14 hX12 eX12 (by decide) fX12_132 (fun _ q => mo hm q) rfl ?_
          rw [q.2.1]
          refine r_Vi (pc := 17) (μ' := mX12_byteAt) dX12_both_17 nX12_135 iX12_byteAt vX12_byteAt kX12_byteAt rfl rfl (rr (by omega) rfl) rfl ⟨Nat.zero_le _, Nat.zero_le _⟩ (fun _ q_ => cvq q_ (ct_M_next hm hu hb q h1)) ?_
          refine r_bipush (pc := 20) (v := 38) dX12_both_20 (by decide) ?_
          rw [← hsg]
          refine r_icmp_ne (pc := 22) 57 dX12_both_22 (by decide) (fun c22 => ?_) (fun c22 => ?_)
          · skip
            exact absurd hc.2 (by simp [c22])
          · skip
            exact T
      · have ec : chainB bs [38] f (n + 1) σ = σ := if_neg hc
        rw [ec]
        refine ⟨x1, EvC.rf, fun m h s0 s A hm q q0 => ?_⟩
        refine r_aload_n (pc := 5) dX12_both_5 rfl ?_
        refine r_getf (pc := 6) (k := 17) dX12_both_6 hX12 eX12 (by decide) fX12_129 (fun _ q => mo hm q) rfl ?_
        rw [q.2.2.2.2.2.2.2.1]
        refine r_if_eq (pc := 9) 57 dX12_both_9 (by decide) (fun c9 => ?_) (fun c9 => ?_)
        · skip
          refine r_iload_n (pc := 57) dX12_both_57 rfl ?_
          refine r_ireturn (pc := 58) (ty := .int) dX12_both_58 rfl rfl ⟨Nat.zero_le _, Nat.zero_le _⟩ (fun gE hg => ?_)
          exact ⟨rfl, s, ⟨q, q0⟩, hg⟩
        · skip
          have hg9 := b2i_n0.mp c9
          refine r_aload_n (pc := 12) dX12_both_12 rfl ?_
          refine r_aload_n (pc := 13) dX12_both_13 rfl ?_
          refine r_getf (pc := 14) (k := 11) dX12_both_14 hX12 eX12 (by decide) fX12_132 (fun _ q => mo hm q) rfl ?_
          rw [q.2.1]
          refine r_Vi (pc := 17) (μ' := mX12_byteAt) dX12_both_17 nX12_135 iX12_byteAt vX12_byteAt kX12_byteAt rfl rfl (rr (by omega) rfl) rfl ⟨Nat.zero_le _, Nat.zero_le _⟩ (fun _ q_ => cvq q_ (ct_M_next hm hu hb q h1)) ?_
          refine r_bipush (pc := 20) (v := 38) dX12_both_20 (by decide) ?_
          refine r_icmp_ne (pc := 22) 57 dX12_both_22 (by decide) (fun c22 => ?_) (fun c22 => ?_)
          · skip
            refine r_iload_n (pc := 57) dX12_both_57 rfl ?_
            refine r_ireturn (pc := 58) (ty := .int) dX12_both_58 rfl rfl ⟨Nat.zero_le _, Nat.zero_le _⟩ (fun gE hg => ?_)
            exact ⟨rfl, s, ⟨q, q0⟩, hg⟩
          · skip
            exact absurd ⟨hg9, by rw [c22]; decide⟩ hc
  intro σ h1 h2 h3
  obtain ⟨x, hx, hct⟩ := hE σ h1 h2 h3
  obtain ⟨p1, p2, p3⟩ := hp σ h1 h3
  obtain ⟨x2, he, hW⟩ := L 50 (f σ) p1 (p3 0 h2) (by omega) x
  refine ⟨x2, hx.C (fun g => chain_g g) he, fun m h s A hm q => ⟨mV hm, ?_⟩⟩
  refine ct_of (by decide) (fun _ _ => Nat.le_of_ble_eq_true rfl) ?_
  dsimp only [pad, ent]
  refine aw_P (P' := MP m h s A) (fun _ q => q) ?_
  refine r_aload_n (pc := 0) dX12_both_0 rfl ?_
  refine r_Vi (pc := 1) (μ' := mX12_compared) dX12_both_1 nX12_174 iX12_compared vX12_compared kX12_compared rfl rfl (rr (by omega) rfl) rfl ⟨Nat.zero_le _, Nat.zero_le _⟩ (fun _ q_ => cvq q_ (hct m h s A hm q)) ?_
  refine aw_ex fun s2 => aw_pr fun q2 => ?_
  refine r_istore_n (pc := 4) dX12_both_4 rfl (Nat.le_of_ble_eq_true rfl) rfl ?_
  dsimp only [lset]
  exact hW m h s s2 A hm q2.1 q2.2
set_option maxHeartbeats 8000000 in
theorem ct_M_whole {D : Nat} {f : RS → RS} (hD : 3 ≤ D) (hu : u < 2) (hb : bs.length ≤ 50) (hp : PF bs f) (hE : MdC u na nb nc bs op D mX12_both f) : MdC u na nb nc bs op (D + 1) mX12_whole (loopB bs [124] f) := by
  have L : ∀ (n : Nat) (σ : RS), σ.1 ≤ bs.length → σ.2.2.length ≤ σ.1 → bs.length - σ.1 ≤ n → ∀ x1 : Int32, ∃ x2, EvC na nb nc σ (chainB bs [124] f n σ) x1 x2 ∧ ∀ (m : Nat) (h : AH) (s0 s : Nat → Int32) (A : Nat → Nat → Int32), m + 14 < h.1 → MdS u na nb nc bs op σ s A → sFr s0 s → AW (fun _ => True) (rmd (D + 1) 0 0) mX12_whole 0 0 5 [some (.ref m), some (.int x1), none] [] (MP m h s A) (fun v g => v = some (.int x2) ∧ ∃ s2, (MdS u na nb nc bs op (chainB bs [124] f n σ) s2 A ∧ sFr s0 s2) ∧ MP m h s2 A g) := by
    intro n
    induction n with
    | zero =>
      intro σ h1 h2 h3 x1
      refine ⟨x1, EvC.rf, fun m h s0 s A hm q q0 => ?_⟩
      have hnx : nxB bs σ = -1 := by unfold nxB; rw [if_neg (by omega)]
      refine r_aload_n (pc := 5) dX12_whole_5 rfl ?_
      refine r_getf (pc := 6) (k := 17) dX12_whole_6 hX12 eX12 (by decide) fX12_129 (fun _ q => mo hm q) rfl ?_
      rw [q.2.2.2.2.2.2.2.1]
      refine r_if_eq (pc := 9) 57 dX12_whole_9 (by decide) (fun c9 => ?_) (fun c9 => ?_)
      · skip
        refine r_iload_n (pc := 57) dX12_whole_57 rfl ?_
        refine r_ireturn (pc := 58) (ty := .int) dX12_whole_58 rfl rfl ⟨Nat.zero_le _, Nat.zero_le _⟩ (fun gE hg => ?_)
        exact ⟨rfl, s, ⟨q, q0⟩, hg⟩
      · skip
        refine r_aload_n (pc := 12) dX12_whole_12 rfl ?_
        refine r_aload_n (pc := 13) dX12_whole_13 rfl ?_
        refine r_getf (pc := 14) (k := 11) dX12_whole_14 hX12 eX12 (by decide) fX12_132 (fun _ q => mo hm q) rfl ?_
        rw [q.2.1]
        refine r_Vi (pc := 17) (μ' := mX12_byteAt) dX12_whole_17 nX12_135 iX12_byteAt vX12_byteAt kX12_byteAt rfl rfl (rr (by omega) rfl) rfl ⟨Nat.zero_le _, Nat.zero_le _⟩ (fun _ q_ => cvq q_ (ct_M_next hm hu hb q h1)) ?_
        refine r_bipush (pc := 20) (v := 124) dX12_whole_20 (by decide) ?_
        rw [hnx]
        refine r_icmp_ne (pc := 22) 57 dX12_whole_22 (by decide) (fun c22 => ?_) (fun c22 => ?_)
        · skip
          refine r_iload_n (pc := 57) dX12_whole_57 rfl ?_
          refine r_ireturn (pc := 58) (ty := .int) dX12_whole_58 rfl rfl ⟨Nat.zero_le _, Nat.zero_le _⟩ (fun gE hg => ?_)
          exact ⟨rfl, s, ⟨q, q0⟩, hg⟩
        · skip
          exact absurd c22 (by decide)
    | succ n ih =>
      intro σ h1 h2 h3 x1
      by_cases hc : σ.2.1 = true ∧ nxB bs σ ∈ [124]
      · have hlt := nx_in hc.2 (by decide)
        obtain ⟨w, hw, hct⟩ := hE (adB σ) hlt (by show σ.2.2.length ≤ σ.1 + 1; omega) hc.1
        obtain ⟨p1, p2, p3⟩ := hp (adB σ) hlt hc.1
        have p2 : σ.1 + 1 ≤ (f (adB σ)).1 := p2
        have p4 := p3 1 (by show σ.2.2.length + 1 ≤ σ.1 + 1; omega)
        obtain ⟨sg, hsg⟩ : ∃ sg, sg = nxB bs σ := ⟨_, rfl⟩
        rw [← hsg] at hc
        have ho : sg ∈ opsL := (show ∀ z, z ∈ ([124] : List Int32) → z ∈ opsL by decide) sg hc.2
        have hle : (emB sg (f (adB σ))).2.2.length ≤ (f (adB σ)).2.2.length + 1 := addL_le
        obtain ⟨x2, he, hW⟩ := ih (emB sg (f (adB σ))) p1 (by show _ ≤ (f (adB σ)).1; omega) (by show bs.length - (f (adB σ)).1 ≤ n; omega) (joinI sg x1 w)
        have ec : chainB bs [124] f (n + 1) σ = chainB bs [124] f n (emB sg (f (adB σ))) := by
          show (if σ.2.1 = true ∧ nxB bs σ ∈ _ then _ else _) = _
          rw [← hsg, if_pos hc]
        rw [ec]
        refine ⟨x2, (EvR.op ho (by omega) hw).tr (fun g => chain_g g) he, fun m h s0 s A hm q q0 => ?_⟩
        have T : AW (fun _ => True) (rmd (D + 1) 0 0) mX12_whole 0 0 25 [some (.ref m), some (.int x1), none] [] (MP m h s A) (fun v g => v = some (.int x2) ∧ ∃ s2, (MdS u na nb nc bs op (chainB bs [124] f n (emB sg (f (adB σ)))) s2 A ∧ sFr s0 s2) ∧ MP m h s2 A g) := by
          refine r_aload_n (pc := 25) dX12_whole_25 rfl ?_
          refine r_dup (pc := 26) dX12_whole_26 rfl ?_
          refine r_getf (pc := 27) (k := 11) dX12_whole_27 hX12 eX12 (by decide) fX12_132 (fun _ q => mo hm q) rfl ?_
          rw [q.2.1]
          refine r_iconst (pc := 30) (v := 1) dX12_whole_30 (by decide) ?_
          refine r_iadd (pc := 31) dX12_whole_31 ?_
          rw [nI_1]
          refine r_mp (pc := 32) (k := 11) hm dX12_whole_32 fX12_132 (by decide) rfl rfl (fun _ _ => rfl) (fun _ _ => rfl) rfl ?_
          refine r_aload_n (pc := 35) dX12_whole_35 rfl ?_
          refine r_Vi (pc := 36) (μ' := mX12_both) dX12_whole_36 nX12_177 iX12_both vX12_both kX12_both rfl rfl (rr (by omega) rfl) rfl ⟨Nat.zero_le _, Nat.zero_le _⟩ (fun _ q_ => cvq q_ (hct m h _ A hm q.ad)) ?_
          refine aw_ex fun s2 => aw_pr fun q2 => ?_
          refine r_istore_n (pc := 39) dX12_whole_39 rfl (Nat.le_of_ble_eq_true rfl) rfl ?_
          dsimp only [lset]
          refine r_iload_n (pc := 40) dX12_whole_40 rfl ?_
          refine r_if_ne (pc := 41) 48 dX12_whole_41 (by decide) (fun c41 => ?_) (fun c41 => ?_)
          · skip
            refine r_iconst (pc := 48) (v := 1) dX12_whole_48 (by decide) ?_
            refine r_goto (pc := 49) 53 dX12_whole_49 (by decide) ?_
            refine r_istore_n (pc := 53) dX12_whole_53 rfl (Nat.le_of_ble_eq_true rfl) rfl ?_
            dsimp only [lset]
            refine r_goto (pc := 54) 5 dX12_whole_54 (by decide) ?_
            refine aw_dr 2 rfl ?_
            first
            | (rw [show (1 : Int32) = joinI sg x1 w by rw [List.mem_singleton.mp hc.2]; exact (if_neg c41).symm]; exact hW m h s0 s2 A hm q2.1 ((q0.up (by omega)).tr q2.2))
            | (rw [show (0 : Int32) = joinI sg x1 w by rw [List.mem_singleton.mp hc.2]; exact ((if_pos c41).trans (if_pos c45)).symm]; exact hW m h s0 s2 A hm q2.1 ((q0.up (by omega)).tr q2.2))
            | (rw [show (1 : Int32) = joinI sg x1 w by rw [List.mem_singleton.mp hc.2]; exact ((if_pos c41).trans (if_neg c45)).symm]; exact hW m h s0 s2 A hm q2.1 ((q0.up (by omega)).tr q2.2))
          · skip
            refine r_iload_n (pc := 44) dX12_whole_44 rfl ?_
            refine r_if_eq (pc := 45) 52 dX12_whole_45 (by decide) (fun c45 => ?_) (fun c45 => ?_)
            · skip
              refine r_iconst (pc := 52) (v := 0) dX12_whole_52 (by decide) ?_
              refine r_istore_n (pc := 53) dX12_whole_53 rfl (Nat.le_of_ble_eq_true rfl) rfl ?_
              dsimp only [lset]
              refine r_goto (pc := 54) 5 dX12_whole_54 (by decide) ?_
              refine aw_dr 2 rfl ?_
              first
              | (rw [show (1 : Int32) = joinI sg x1 w by rw [List.mem_singleton.mp hc.2]; exact (if_neg c41).symm]; exact hW m h s0 s2 A hm q2.1 ((q0.up (by omega)).tr q2.2))
              | (rw [show (0 : Int32) = joinI sg x1 w by rw [List.mem_singleton.mp hc.2]; exact ((if_pos c41).trans (if_pos c45)).symm]; exact hW m h s0 s2 A hm q2.1 ((q0.up (by omega)).tr q2.2))
              | (rw [show (1 : Int32) = joinI sg x1 w by rw [List.mem_singleton.mp hc.2]; exact ((if_pos c41).trans (if_neg c45)).symm]; exact hW m h s0 s2 A hm q2.1 ((q0.up (by omega)).tr q2.2))
            · skip
              refine r_iconst (pc := 48) (v := 1) dX12_whole_48 (by decide) ?_
              refine r_goto (pc := 49) 53 dX12_whole_49 (by decide) ?_
              refine r_istore_n (pc := 53) dX12_whole_53 rfl (Nat.le_of_ble_eq_true rfl) rfl ?_
              dsimp only [lset]
              refine r_goto (pc := 54) 5 dX12_whole_54 (by decide) ?_
              refine aw_dr 2 rfl ?_
              first
              | (rw [show (1 : Int32) = joinI sg x1 w by rw [List.mem_singleton.mp hc.2]; exact (if_neg c41).symm]; exact hW m h s0 s2 A hm q2.1 ((q0.up (by omega)).tr q2.2))
              | (rw [show (0 : Int32) = joinI sg x1 w by rw [List.mem_singleton.mp hc.2]; exact ((if_pos c41).trans (if_pos c45)).symm]; exact hW m h s0 s2 A hm q2.1 ((q0.up (by omega)).tr q2.2))
              | (rw [show (1 : Int32) = joinI sg x1 w by rw [List.mem_singleton.mp hc.2]; exact ((if_pos c41).trans (if_neg c45)).symm]; exact hW m h s0 s2 A hm q2.1 ((q0.up (by omega)).tr q2.2))
        refine r_aload_n (pc := 5) dX12_whole_5 rfl ?_
        refine r_getf (pc := 6) (k := 17) dX12_whole_6 hX12 eX12 (by decide) fX12_129 (fun _ q => mo hm q) rfl ?_
        rw [q.2.2.2.2.2.2.2.1]
        refine r_if_eq (pc := 9) 57 dX12_whole_9 (by decide) (fun c9 => ?_) (fun c9 => ?_)
        · skip
          exact absurd hc.1 (by rw [b2i_0.mp c9]; exact Bool.false_ne_true)
        · skip
          refine r_aload_n (pc := 12) dX12_whole_12 rfl ?_
          refine r_aload_n (pc := 13) dX12_whole_13 rfl ?_
          refine r_getf (pc := 14) (k := 11) dX12_whole_14 hX12 eX12 (by decide) fX12_132 (fun _ q => mo hm q) rfl ?_
          rw [q.2.1]
          refine r_Vi (pc := 17) (μ' := mX12_byteAt) dX12_whole_17 nX12_135 iX12_byteAt vX12_byteAt kX12_byteAt rfl rfl (rr (by omega) rfl) rfl ⟨Nat.zero_le _, Nat.zero_le _⟩ (fun _ q_ => cvq q_ (ct_M_next hm hu hb q h1)) ?_
          refine r_bipush (pc := 20) (v := 124) dX12_whole_20 (by decide) ?_
          rw [← hsg]
          refine r_icmp_ne (pc := 22) 57 dX12_whole_22 (by decide) (fun c22 => ?_) (fun c22 => ?_)
          · skip
            exact absurd hc.2 (by simp [c22])
          · skip
            exact T
      · have ec : chainB bs [124] f (n + 1) σ = σ := if_neg hc
        rw [ec]
        refine ⟨x1, EvC.rf, fun m h s0 s A hm q q0 => ?_⟩
        refine r_aload_n (pc := 5) dX12_whole_5 rfl ?_
        refine r_getf (pc := 6) (k := 17) dX12_whole_6 hX12 eX12 (by decide) fX12_129 (fun _ q => mo hm q) rfl ?_
        rw [q.2.2.2.2.2.2.2.1]
        refine r_if_eq (pc := 9) 57 dX12_whole_9 (by decide) (fun c9 => ?_) (fun c9 => ?_)
        · skip
          refine r_iload_n (pc := 57) dX12_whole_57 rfl ?_
          refine r_ireturn (pc := 58) (ty := .int) dX12_whole_58 rfl rfl ⟨Nat.zero_le _, Nat.zero_le _⟩ (fun gE hg => ?_)
          exact ⟨rfl, s, ⟨q, q0⟩, hg⟩
        · skip
          have hg9 := b2i_n0.mp c9
          refine r_aload_n (pc := 12) dX12_whole_12 rfl ?_
          refine r_aload_n (pc := 13) dX12_whole_13 rfl ?_
          refine r_getf (pc := 14) (k := 11) dX12_whole_14 hX12 eX12 (by decide) fX12_132 (fun _ q => mo hm q) rfl ?_
          rw [q.2.1]
          refine r_Vi (pc := 17) (μ' := mX12_byteAt) dX12_whole_17 nX12_135 iX12_byteAt vX12_byteAt kX12_byteAt rfl rfl (rr (by omega) rfl) rfl ⟨Nat.zero_le _, Nat.zero_le _⟩ (fun _ q_ => cvq q_ (ct_M_next hm hu hb q h1)) ?_
          refine r_bipush (pc := 20) (v := 124) dX12_whole_20 (by decide) ?_
          refine r_icmp_ne (pc := 22) 57 dX12_whole_22 (by decide) (fun c22 => ?_) (fun c22 => ?_)
          · skip
            refine r_iload_n (pc := 57) dX12_whole_57 rfl ?_
            refine r_ireturn (pc := 58) (ty := .int) dX12_whole_58 rfl rfl ⟨Nat.zero_le _, Nat.zero_le _⟩ (fun gE hg => ?_)
            exact ⟨rfl, s, ⟨q, q0⟩, hg⟩
          · skip
            exact absurd ⟨hg9, by rw [c22]; decide⟩ hc
  intro σ h1 h2 h3
  obtain ⟨x, hx, hct⟩ := hE σ h1 h2 h3
  obtain ⟨p1, p2, p3⟩ := hp σ h1 h3
  obtain ⟨x2, he, hW⟩ := L 50 (f σ) p1 (p3 0 h2) (by omega) x
  refine ⟨x2, hx.C (fun g => chain_g g) he, fun m h s A hm q => ⟨mV hm, ?_⟩⟩
  refine ct_of (by decide) (fun _ _ => Nat.le_of_ble_eq_true rfl) ?_
  dsimp only [pad, ent]
  refine aw_P (P' := MP m h s A) (fun _ q => q) ?_
  refine r_aload_n (pc := 0) dX12_whole_0 rfl ?_
  refine r_Vi (pc := 1) (μ' := mX12_both) dX12_whole_1 nX12_177 iX12_both vX12_both kX12_both rfl rfl (rr (by omega) rfl) rfl ⟨Nat.zero_le _, Nat.zero_le _⟩ (fun _ q_ => cvq q_ (hct m h s A hm q)) ?_
  refine aw_ex fun s2 => aw_pr fun q2 => ?_
  refine r_istore_n (pc := 4) dX12_whole_4 rfl (Nat.le_of_ble_eq_true rfl) rfl ?_
  dsimp only [lset]
  exact hW m h s s2 A hm q2.1 q2.2
end Pa
