/-! THE REFERENCE: SEEN; sums by cells are sums by strips -/
def sumN (f : Nat → Nat) : Nat → Nat
  | 0 => 0
  | n + 1 => sumN f n + f n
theorem sumN_ext {f g : Nat → Nat} : ∀ n, (∀ i, i < n → f i = g i) → sumN f n = sumN g n
  | 0, _ => rfl
  | n + 1, h => by rw [sumN, sumN, sumN_ext n (fun i hi => h i (by omega)), h n (by omega)]
theorem sumN_add {f : Nat → Nat} (a : Nat) : ∀ n, sumN f (a + n) = sumN f a + sumN (fun i => f (a + i)) n
  | 0 => rfl
  | n + 1 => by rw [← Nat.add_assoc, sumN, sumN_add a n, sumN]; omega
theorem sumN_2 {f g : Nat → Nat} : ∀ n, sumN (fun i => f i + g i) n = sumN f n + sumN g n
  | 0 => rfl
  | n + 1 => by rw [sumN, sumN_2 n, sumN, sumN]; omega
theorem sumN_0 : ∀ n, sumN (fun _ => 0) n = 0
  | 0 => rfl
  | n + 1 => by rw [sumN, sumN_0 n]
theorem sumN_block {F : Nat → Nat → Nat} {st : Nat} (h0 : 0 < st) : ∀ ro, sumN (fun c => F (c / st) (c % st)) (ro * st) = sumN (fun r => sumN (F r) st) ro
  | 0 => by rw [Nat.zero_mul]; rfl
  | ro + 1 => by
    rw [Nat.succ_mul, sumN_add, sumN_block h0 ro, sumN]
    congr 1
    refine sumN_ext st fun i hi => ?_
    show F ((ro * st + i) / st) ((ro * st + i) % st) = F ro i
    rw [cell_div hi, cell_mod hi]
theorem sumN_swap {F : Nat → Nat → Nat} (n : Nat) : ∀ m, sumN (fun r => sumN (F r) n) m = sumN (fun s => sumN (fun r => F r s) m) n
  | 0 => (sumN_0 n).symm
  | m + 1 => by
    rw [sumN, sumN_swap n m, ← sumN_2]
    rfl
theorem sumN_cut {f : Nat → Nat} {st : Nat} (h0 : 0 < st) (h : f (st - 1) = 0) : sumN f st = sumN f (st - 1) := by
  obtain ⟨n, rfl⟩ : ∃ n, st = n + 1 := ⟨st - 1, by omega⟩
  rw [sumN]
  have h : f n = 0 := h
  rw [h]; rfl
def smB (K : CK) (dr : Nat → Nat → Nat) (c : Nat) : Bool := decide (c % kSt K + 1 < kSt K) && seamB K dr (c / kSt K) (c % kSt K) (c % kSt K) (c % kSt K + 1) 0
def smV (K : CK) (dr : Nat → Nat → Nat) (lt : Nat → Nat → Nat → Nat) (c : Nat) : Nat := if smB K dr c = true then lt (c / kSt K) (c % kSt K) (absD (vE K (c / kSt K) (c % kSt K)) (vE K (c / kSt K) (c % kSt K + 1))) else 0
theorem sbN_sum {K : CK} {dr : Nat → Nat → Nat} {lt : Nat → Nat → Nat → Nat} {s p q n : Nat} : ∀ k, sbN K dr lt s p q n k = sumN (fun r => if seamB K dr r s p q n = true then lt r s (absD (vE K r p) (vE K r q)) else 0) k
  | 0 => rfl
  | k + 1 => by rw [sbN, sbN_sum k, sumN]
theorem seN_sum {K : CK} {dr : Nat → Nat → Nat} {lt : Nat → Nat → Nat → Nat} : ∀ k, seN K dr lt k = sumN (fun s => sbN K dr lt s s (s + 1) 0 (kRo K)) k
  | 0 => rfl
  | k + 1 => by rw [seN, seN_sum k, sumN]
theorem smV_seen {K : CK} {dr : Nat → Nat → Nat} {lt : Nat → Nat → Nat → Nat} (h0 : 0 < kSt K) : sumN (smV K dr lt) (kRo K * kSt K) = seenN K dr lt := by
  have e1 : sumN (smV K dr lt) (kRo K * kSt K) = sumN (fun r => sumN (fun s => if (decide (s + 1 < kSt K) && seamB K dr r s s (s + 1) 0) = true then lt r s (absD (vE K r s) (vE K r (s + 1))) else 0) (kSt K)) (kRo K) :=
    sumN_block (F := fun r s => if (decide (s + 1 < kSt K) && seamB K dr r s s (s + 1) 0) = true then lt r s (absD (vE K r s) (vE K r (s + 1))) else 0) h0 (kRo K)
  unfold seenN
  rw [e1, sumN_swap, seN_sum, sumN_cut h0]
  · refine sumN_ext _ fun s hs => ?_
    rw [sbN_sum]
    refine sumN_ext _ fun r hr => ?_
    rw [decide_eq_true (by omega), Bool.true_and]
  · show sumN (fun r => if (decide (kSt K - 1 + 1 < kSt K) && _) = true then _ else 0) (kRo K) = 0
    rw [sumN_ext (g := fun _ => 0) _ (fun r hr => by rw [decide_eq_false (by omega), Bool.false_and]; rfl)]
    exact sumN_0 _
theorem cnS_sum {K : CK} {dr : Nat → Nat → Nat} {r : Nat} : ∀ k, cnS K dr r k = sumN (fun s => if seamB K dr r s s (s + 1) 0 = true then 1 else 0) k
  | 0 => rfl
  | k + 1 => by rw [cnS, cnS_sum k, sumN]
theorem cnR_sum {K : CK} {dr : Nat → Nat → Nat} : ∀ k, cnR K dr k = sumN (fun r => cnS K dr r (kSt K - 1)) k
  | 0 => rfl
  | k + 1 => by rw [cnR, cnR_sum k, sumN]
theorem smB_cnt {K : CK} {dr : Nat → Nat → Nat} (h0 : 0 < kSt K) : sumN (fun c => if smB K dr c = true then 1 else 0) (kRo K * kSt K) = cnR K dr (kRo K) := by
  have e1 : sumN (fun c => if smB K dr c = true then 1 else 0) (kRo K * kSt K) = sumN (fun r => sumN (fun s => if (decide (s + 1 < kSt K) && seamB K dr r s s (s + 1) 0) = true then 1 else 0) (kSt K)) (kRo K) :=
    sumN_block (F := fun r s => if (decide (s + 1 < kSt K) && seamB K dr r s s (s + 1) 0) = true then 1 else 0) h0 (kRo K)
  rw [e1, cnR_sum]
  refine sumN_ext _ fun r hr => ?_
  rw [cnS_sum, sumN_cut h0]
  · refine sumN_ext _ fun s hs => ?_
    rw [decide_eq_true (by omega), Bool.true_and]
  · rw [decide_eq_false (by omega), Bool.false_and]; rfl
section Se
variable {K : CK} {lD lL : List Int32} {s s2 : Nat → Int32} {A : Nat → Nat → Int32} {m : Nat} {h : AH}
set_option maxHeartbeats 4000000 in
theorem ct_M_seamAt (hm : m + 14 < h.1) (ok : KOk K) (wb : WB K) (q : SE K lD lL s A) {c : Nat} (hc : c < kRo K * kSt K) : CV 44 0 0 mX12_seamAt m [.int (nI c)] (mh m h s A) (fun v g => v = some (.int (b2i (smB K (drL lD (kHe K)) c))) ∧ ∃ s2, sFr s s2 ∧ MP m h s2 A g) := by
  refine ⟨mV hm, ?_⟩
  refine ct_of (by decide) (fun _ _ => Nat.le_of_ble_eq_true rfl) ?_
  dsimp only [pad, ent]
  refine aw_P (P' := MP m h s A) (fun _ q => q) ?_
  have hst : 1 ≤ kSt K ∧ kSt K ≤ 6 := ok.2.1
  have hro : 1 ≤ kRo K ∧ kRo K ≤ 6 := ok.1
  have h36 : kRo K * kSt K ≤ 6 * 6 := Nat.mul_le_mul (by omega) (by omega)
  have r1 := q.1.2.1
  have hne : ¬ nI (kSt K) = 0 := nI_ne0 (by omega) (by omega)
  have hlt : c % kSt K < kSt K := Nat.mod_lt _ (by omega)
  have hT1 := nI_T (n := c % kSt K) (by omega)
  have hT2 := nI_T (n := kSt K - 1) (by omega)
  refine r_iload_n (pc := 0) dX12_seamAt_0 rfl ?_
  refine r_aload_n (pc := 1) dX12_seamAt_1 rfl ?_
  refine r_getf (pc := 2) (k := 0) dX12_seamAt_2 hX12 eX12 (by decide) fX12_7 (fun _ q => mo hm q) rfl ?_
  refine r_iconst (pc := 5) (v := 1) dX12_seamAt_5 (by decide) ?_
  refine r_ml (pc := 6) (i := 0) (j := 1) hm dX12_seamAt_6 (by decide) rfl (by decide) ?_
  rw [r1]
  refine r_irem' (pc := 7) dX12_seamAt_7 hne ?_
  rw [rem_nI (d := kSt K) (by omega) (by omega) (by omega)]
  refine r_aload_n (pc := 8) dX12_seamAt_8 rfl ?_
  refine r_getf (pc := 9) (k := 0) dX12_seamAt_9 hX12 eX12 (by decide) fX12_7 (fun _ q => mo hm q) rfl ?_
  refine r_iconst (pc := 12) (v := 1) dX12_seamAt_12 (by decide) ?_
  refine r_ml (pc := 13) (i := 0) (j := 1) hm dX12_seamAt_13 (by decide) rfl (by decide) ?_
  rw [r1]
  refine r_iconst (pc := 14) (v := 1) dX12_seamAt_14 (by decide) ?_
  rw [show (1 : Int32) = nI 1 from rfl]
  refine r_isub (pc := 15) dX12_seamAt_15 ?_
  rw [nI_sub' (by omega)]
  refine r_icmp_ge (pc := 16) 31 dX12_seamAt_16 (by decide) (fun c16 => ?_) (fun c16 => ?_)
  · skip
    have k1 : ¬ c % kSt K + 1 < kSt K := fun x => by have := fa_le.mp c16; omega
    have hv : smB K (drL lD (kHe K)) c = false := by unfold smB; rw [decide_eq_false k1, Bool.false_and]
    rw [hv]
    refine r_iconst (pc := 31) (v := 0) dX12_seamAt_31 (by decide) ?_
    refine r_ireturn (pc := 32) (ty := .int) dX12_seamAt_32 rfl rfl ⟨Nat.zero_le _, Nat.zero_le _⟩ (fun gE hg => ?_)
    first
    | exact ⟨rfl, s2, q2, hg⟩
    | exact ⟨rfl, s, sFr.rf s, hg⟩
  · skip
    have k1 : c % kSt K + 1 < kSt K := Decidable.byContradiction fun x => c16 (fa_le.mpr (by omega))
    have hv : smB K (drL lD (kHe K)) c = seamB K (drL lD (kHe K)) (c / kSt K) (c % kSt K) (c % kSt K) (c % kSt K + 1) 0 := by unfold smB; rw [decide_eq_true k1, Bool.true_and]
    rw [hv]
    refine r_aload_n (pc := 19) dX12_seamAt_19 rfl ?_
    refine r_iload_n (pc := 20) dX12_seamAt_20 rfl ?_
    refine r_Vi (pc := 21) (μ' := mX12_isSeam) dX12_seamAt_21 nX12_87 iX12_isSeam vX12_isSeam kX12_isSeam rfl rfl (rr (by omega) rfl) rfl ⟨Nat.zero_le _, Nat.zero_le _⟩ (fun _ q_ => cvq q_ (ct_M_isSeam hm ok wb q hc k1)) ?_
    refine aw_ex fun s2 => aw_pr fun q2 => ?_
    refine r_if_eq (pc := 24) 31 dX12_seamAt_24 (by decide) (fun c24 => ?_) (fun c24 => ?_)
    · skip
      rw [b2i_0.mp c24]
      refine r_iconst (pc := 31) (v := 0) dX12_seamAt_31 (by decide) ?_
      refine r_ireturn (pc := 32) (ty := .int) dX12_seamAt_32 rfl rfl ⟨Nat.zero_le _, Nat.zero_le _⟩ (fun gE hg => ?_)
      first
      | exact ⟨rfl, s2, q2, hg⟩
      | exact ⟨rfl, s, sFr.rf s, hg⟩
    · skip
      rw [b2i_n0.mp c24]
      refine r_iconst (pc := 27) (v := 1) dX12_seamAt_27 (by decide) ?_
      refine r_goto (pc := 28) 32 dX12_seamAt_28 (by decide) ?_
      refine r_ireturn (pc := 32) (ty := .int) dX12_seamAt_32 rfl rfl ⟨Nat.zero_le _, Nat.zero_le _⟩ (fun gE hg => ?_)
      first
      | exact ⟨rfl, s2, q2, hg⟩
      | exact ⟨rfl, s, sFr.rf s, hg⟩
theorem neg_0 (x : Int32) : -x = 0 - x := (Int32.zero_sub x).symm
set_option maxHeartbeats 4000000 in
theorem ct_M_seen (hm : m + 14 < h.1) (ok : KOk K) (wb : WB K) (q : SE K lD lL s A) : CV 45 0 0 mX12_seen m [] (mh m h s A) (fun v g => v = some (.int (nI (seenN K (drL lD (kHe K)) (ltL lL)))) ∧ ∃ s2 f6, (SE K lD lL s2 (upA A 6 f6) ∧ sFr s s2) ∧ MP m h s2 (upA A 6 f6) g) := by
  refine ⟨mV hm, ?_⟩
  refine ct_of (by decide) (fun _ _ => Nat.le_of_ble_eq_true rfl) ?_
  dsimp only [pad, ent]
  have hst : 1 ≤ kSt K ∧ kSt K ≤ 6 := ok.2.1
  have hro : 1 ≤ kRo K ∧ kRo K ≤ 6 := ok.1
  have h36 : kRo K * kSt K ≤ 6 * 6 := Nat.mul_le_mul (by omega) (by omega)
  obtain ⟨S, hS⟩ : ∃ S, S = smV K (drL lD (kHe K)) (ltL lL) := ⟨_, rfl⟩
  have hfin : sumN S (kRo K * kSt K) = seenN K (drL lD (kHe K)) (ltL lL) := by rw [hS]; exact smV_seen (by omega)
  rw [← hfin]
  have hce : A 0 0 * A 0 1 = nI (kRo K * kSt K) := by rw [q.1.1, q.1.2.1, pk_mul]
  have L : ∀ c, c ≤ kRo K * kSt K → ∀ (s1 : Nat → Int32) (f6 : Nat → Int32), SE K lD lL s1 (upA A 6 f6) → sFr s s1 → AW (fun _ => True) (rmd 45 0 0) mX12_seen 0 0 4 [some (.ref m), some (.int (nI (sumN S c))), some (.int (nI c)), none] [] (MP m h s1 (upA A 6 f6)) (fun v g => v = some (.int (nI (sumN S (kRo K * kSt K)))) ∧ ∃ s2 f6, (SE K lD lL s2 (upA A 6 f6) ∧ sFr s s2) ∧ MP m h s2 (upA A 6 f6) g) := by
    refine up_loop ?_ ?_
    · intro s1 f6 q1 q2
      refine r_iload_n (pc := 4) dX12_seen_4 rfl ?_
      refine r_aload_n (pc := 5) dX12_seen_5 rfl ?_
      refine r_Vi (pc := 6) (μ' := mX12_cells) dX12_seen_6 nX12_66 iX12_cells vX12_cells kX12_cells rfl rfl (rr (by omega) rfl) rfl ⟨Nat.zero_le _, Nat.zero_le _⟩ (fun _ q_ => cvq q_ (ct_M_cells hm)) ?_
      rw [show upA A 6 f6 0 0 * upA A 6 f6 0 1 = nI (kRo K * kSt K) from hce]
      refine r_icmp_ge (pc := 9) 59 dX12_seen_9 (by decide) (fun c9 => ?_) (fun c9 => ?_)
      · skip
        refine r_iload_n (pc := 59) dX12_seen_59 rfl ?_
        refine r_ireturn (pc := 60) (ty := .int) dX12_seen_60 rfl rfl ⟨Nat.zero_le _, Nat.zero_le _⟩ (fun gE hg => ?_)
        exact ⟨rfl, s1, f6, ⟨q1, q2⟩, hg⟩
      · skip
        exact absurd (fa_le.mpr (Int.le_refl _)) c9
    · intro c hc ih s1 f6 q1 q2
      have hT := nI_T (n := c) (by omega)
      have hT2 := nI_T (n := kRo K * kSt K) (by omega)
      obtain ⟨c1, c2, c3⟩ := cel_rs hc (by omega)
      have hsS : sumN S (c + 1) = sumN S c + S c := rfl
      have next : ∀ (s3 : Nat → Int32) (f : Nat → Int32) (x : Int32), x = nI (sumN S (c + 1)) → SE K lD lL s3 (upA A 6 f) → sFr s s3 → AW (fun _ => True) (rmd 45 0 0) mX12_seen 0 0 4 [some (.ref m), some (.int x), some (.int (nI (c + 1))), none] [] (MP m h s3 (upA A 6 f)) (fun v g => v = some (.int (nI (sumN S (kRo K * kSt K)))) ∧ ∃ s2 f6, (SE K lD lL s2 (upA A 6 f6) ∧ sFr s s2) ∧ MP m h s2 (upA A 6 f6) g) := by
        intro s3 f x e a b
        rw [e]
        exact ih s3 f a b
      refine r_iload_n (pc := 4) dX12_seen_4 rfl ?_
      refine r_aload_n (pc := 5) dX12_seen_5 rfl ?_
      refine r_Vi (pc := 6) (μ' := mX12_cells) dX12_seen_6 nX12_66 iX12_cells vX12_cells kX12_cells rfl rfl (rr (by omega) rfl) rfl ⟨Nat.zero_le _, Nat.zero_le _⟩ (fun _ q_ => cvq q_ (ct_M_cells hm)) ?_
      rw [show upA A 6 f6 0 0 * upA A 6 f6 0 1 = nI (kRo K * kSt K) from hce]
      refine r_icmp_ge (pc := 9) 59 dX12_seen_9 (by decide) (fun c9 => ?_) (fun c9 => ?_)
      · skip
        exact absurd c9 (fun x => by have := fa_le.mp x; omega)
      · skip
        refine r_aload_n (pc := 12) dX12_seen_12 rfl ?_
        refine r_iload_n (pc := 13) dX12_seen_13 rfl ?_
        refine r_Vi (pc := 14) (μ' := mX12_seamAt) dX12_seen_14 nX12_94 iX12_seamAt vX12_seamAt kX12_seamAt rfl rfl (rr (by omega) rfl) rfl ⟨Nat.zero_le _, Nat.zero_le _⟩ (fun _ q_ => cvq q_ (ct_M_seamAt hm ok wb q1 hc)) ?_
        refine aw_ex fun s3 => aw_pr fun q3 => ?_
        refine r_iconst (pc := 17) (v := 1) dX12_seen_17 (by decide) ?_
        refine r_icmp_ne (pc := 18) 53 dX12_seen_18 (by decide) (fun c18 => ?_) (fun c18 => ?_)
        · skip
          have k1 : smB K (drL lD (kHe K)) c = false := by
            cases e : smB K (drL lD (kHe K)) c
            · rfl
            · exact absurd (by rw [e]; rfl) c18
          have e0 : S c = 0 := by rw [hS]; unfold smV; rw [k1]; rfl
          refine r_iinc1 (pc := 53) dX12_seen_53 rfl (Nat.le_of_ble_eq_true rfl) rfl ?_
          dsimp only [lset]
          refine r_goto (pc := 56) 4 dX12_seen_56 (by decide) ?_
          rw [nI_1]
          first
          | exact next s3 f6 _ (by rw [hsS, e0]; rfl) (q1.fr q3) (q2.tr q3)
          | exact aw_dr 3 rfl (next s4 f7 _ (by rw [hsS, e0, nI_add]) q4.1 ((q2.tr q3).tr q4.2))
        · skip
          have k1 : smB K (drL lD (kHe K)) c = true := by
            cases e : smB K (drL lD (kHe K)) c
            · rw [e] at c18; exact absurd c18 (by decide)
            · rfl
          have k2 : c % kSt K + 1 < kSt K := of_decide_eq_true (Bool.and_eq_true_iff.mp k1).1
          have hcc : c + 1 < kRo K * kSt K := by have := cell_lt (st := kSt K) c1 k2; omega
          have ca := q1.1.cell hc (by omega)
          have cb := q1.1.cell hcc (by omega)
          have e1 : (c + 1) / kSt K = c / kSt K := by rw [show c + 1 = c / kSt K * kSt K + (c % kSt K + 1) by omega]; exact cell_div k2
          have e2 : (c + 1) % kSt K = c % kSt K + 1 := by rw [show c + 1 = c / kSt K * kSt K + (c % kSt K + 1) by omega]; exact cell_mod k2
          rw [e1, e2] at cb
          obtain ⟨va, hva⟩ : ∃ va, va = kV K (c / kSt K) (c % kSt K) := ⟨_, rfl⟩
          obtain ⟨vb, hvb⟩ : ∃ vb, vb = kV K (c / kSt K) (c % kSt K + 1) := ⟨_, rfl⟩
          have va9 : va ≤ 99 := by rw [hva]; exact ok.2.2.2.2.2.2 _ _
          have vb9 : vb ≤ 99 := by rw [hvb]; exact ok.2.2.2.2.2.2 _ _
          have hd : absD va vb < 100 := by unfold absD; split <;> omega
          have e0 : S c = ltL lL (c / kSt K) (c % kSt K) (absD va vb) := by
            rw [hS]
            unfold smV
            rw [if_pos k1]
            unfold vE
            rw [if_pos c2, if_pos k2, ← hva, ← hvb]
          have hab := abs_sub va9 vb9
          refine r_aload_n (pc := 21) dX12_seen_21 rfl ?_
          refine r_iload_n (pc := 22) dX12_seen_22 rfl ?_
          refine r_Vi (pc := 23) (μ' := mX12_whiteOf) dX12_seen_23 nX12_84 iX12_whiteOf vX12_whiteOf kX12_whiteOf rfl rfl (rr (by omega) rfl) rfl ⟨Nat.zero_le _, Nat.zero_le _⟩ (fun _ q_ => cvq q_ (ct_M_whiteOf hm (show c < 36 by omega))) ?_
          rw [ca.2, ← hva]
          refine r_aload_n (pc := 26) dX12_seen_26 rfl ?_
          refine r_iload_n (pc := 27) dX12_seen_27 rfl ?_
          refine r_iconst (pc := 28) (v := 1) dX12_seen_28 (by decide) ?_
          refine r_iadd (pc := 29) dX12_seen_29 ?_
          rw [nI_1]
          refine r_Vi (pc := 30) (μ' := mX12_whiteOf) dX12_seen_30 nX12_84 iX12_whiteOf vX12_whiteOf kX12_whiteOf rfl rfl (rr (by omega) rfl) rfl ⟨Nat.zero_le _, Nat.zero_le _⟩ (fun _ q_ => cvq q_ (ct_M_whiteOf hm (show c + 1 < 36 by omega))) ?_
          rw [cb.2, ← hvb]
          refine r_isub (pc := 33) dX12_seen_33 ?_
          refine r_istore_n (pc := 34) dX12_seen_34 rfl (Nat.le_of_ble_eq_true rfl) rfl ?_
          dsimp only [lset]
          refine r_iload_n (pc := 35) dX12_seen_35 rfl ?_
          refine r_aload_n (pc := 36) dX12_seen_36 rfl ?_
          refine r_iload_n (pc := 37) dX12_seen_37 rfl ?_
          refine r_iload_n (pc := 38) dX12_seen_38 rfl ?_
          refine r_if_ge (pc := 39) 47 dX12_seen_39 (by decide) (fun c39 => ?_) (fun c39 => ?_)
          · skip
            rw [if_pos c39] at hab
            rw [hab]
            refine r_iload_n (pc := 47) dX12_seen_47 rfl ?_
            refine r_Vi (pc := 48) (μ' := mX12_shows) dX12_seen_48 nX12_214 iX12_shows vX12_shows kX12_shows rfl rfl (rr (by omega) rfl) rfl ⟨Nat.zero_le _, Nat.zero_le _⟩ (fun _ q_ => cvq q_ (ct_M_shows hm ok (q1.fr q3) hc hd)) ?_
            refine aw_ex fun s4 => aw_ex fun f7 => aw_pr fun q4 => ?_
            rw [upA_2] at q4 ⊢
            refine r_iadd (pc := 51) dX12_seen_51 ?_
            refine r_istore_n (pc := 52) dX12_seen_52 rfl (Nat.le_of_ble_eq_true rfl) rfl ?_
            dsimp only [lset]
            refine r_iinc1 (pc := 53) dX12_seen_53 rfl (Nat.le_of_ble_eq_true rfl) rfl ?_
            dsimp only [lset]
            refine r_goto (pc := 56) 4 dX12_seen_56 (by decide) ?_
            rw [nI_1]
            first
            | exact next s3 f6 _ (by rw [hsS, e0]; rfl) (q1.fr q3) (q2.tr q3)
            | exact aw_dr 3 rfl (next s4 f7 _ (by rw [hsS, e0, nI_add]) q4.1 ((q2.tr q3).tr q4.2))
          · skip
            rw [if_neg c39] at hab
            refine r_iload_n (pc := 42) dX12_seen_42 rfl ?_
            refine r_ineg (pc := 43) dX12_seen_43 ?_
            rw [neg_0, hab]
            refine r_goto (pc := 44) 48 dX12_seen_44 (by decide) ?_
            refine r_Vi (pc := 48) (μ' := mX12_shows) dX12_seen_48 nX12_214 iX12_shows vX12_shows kX12_shows rfl rfl (rr (by omega) rfl) rfl ⟨Nat.zero_le _, Nat.zero_le _⟩ (fun _ q_ => cvq q_ (ct_M_shows hm ok (q1.fr q3) hc hd)) ?_
            refine aw_ex fun s4 => aw_ex fun f7 => aw_pr fun q4 => ?_
            rw [upA_2] at q4 ⊢
            refine r_iadd (pc := 51) dX12_seen_51 ?_
            refine r_istore_n (pc := 52) dX12_seen_52 rfl (Nat.le_of_ble_eq_true rfl) rfl ?_
            dsimp only [lset]
            refine r_iinc1 (pc := 53) dX12_seen_53 rfl (Nat.le_of_ble_eq_true rfl) rfl ?_
            dsimp only [lset]
            refine r_goto (pc := 56) 4 dX12_seen_56 (by decide) ?_
            rw [nI_1]
            first
            | exact next s3 f6 _ (by rw [hsS, e0]; rfl) (q1.fr q3) (q2.tr q3)
            | exact aw_dr 3 rfl (next s4 f7 _ (by rw [hsS, e0, nI_add]) q4.1 ((q2.tr q3).tr q4.2))
  refine aw_P (P' := MP m h s (upA A 6 (A 6))) (fun _ q => by rw [upA_id]; exact q) ?_
  refine r_iconst (pc := 0) (v := 0) dX12_seen_0 (by decide) ?_
  refine r_istore_n (pc := 1) dX12_seen_1 rfl (Nat.le_of_ble_eq_true rfl) rfl ?_
  dsimp only [lset]
  refine r_iconst (pc := 2) (v := 0) dX12_seen_2 (by decide) ?_
  refine r_istore_n (pc := 3) dX12_seen_3 rfl (Nat.le_of_ble_eq_true rfl) rfl ?_
  dsimp only [lset]
  exact L 0 (Nat.zero_le _) s (A 6) (by rw [upA_id]; exact q) (sFr.rf s)
set_option maxHeartbeats 4000000 in
theorem ct_M_tables (hm : m + 14 < h.1) (ok : KOk K) (q : SE K lD lL s A) (h9 : s 9 = 0) : CV 43 0 0 mX12_tables m [] (mh m h s A) (fun v g => v = none ∧ ∃ s2 A2, (SE K lD lL s2 A2 ∧ s2 9 = 1 ∧ (∀ k, (k < 9 ∨ 17 < k) → s2 k = s k) ∧ ∀ i, i ≠ 5 → i ≠ 6 → A2 i = A i) ∧ MP m h s2 A2 g) := by
  refine ⟨mV hm, ?_⟩
  refine ct_of (by decide) (fun _ _ => Nat.le_of_ble_eq_true rfl) ?_
  dsimp only [pad, ent]
  have hst : 1 ≤ kSt K ∧ kSt K ≤ 6 := ok.2.1
  have hro : 1 ≤ kRo K ∧ kRo K ≤ 6 := ok.1
  have h36 : kRo K * kSt K ≤ 6 * 6 := Nat.mul_le_mul (by omega) (by omega)
  have hce : A 0 0 * A 0 1 = nI (kRo K * kSt K) := by rw [q.1.1, q.1.2.1, pk_mul]
  have L2 : ∀ (s1 f5 : Nat → Int32), sFr s s1 → (∀ c, c < kRo K * kSt K → f5 c = nI (drL lD (kHe K) (c / kSt K) (c % kSt K))) → ∀ k, k ≤ 3600 → ∀ f6 : Nat → Int32, (∀ j, j < k → f6 j = -1) → AW (fun _ => True) (rmd 43 0 0) mX12_tables 0 0 29 [some (.ref m), some (.int (nI k))] [] (MP m h s1 (upA (upA A 5 f5) 6 f6)) (fun v g => v = none ∧ ∃ s2 A2, (SE K lD lL s2 A2 ∧ s2 9 = 1 ∧ (∀ k, (k < 9 ∨ 17 < k) → s2 k = s k) ∧ ∀ i, i ≠ 5 → i ≠ 6 → A2 i = A i) ∧ MP m h s2 A2 g) := by
    intro s1 f5 q1 q5
    refine up_loop ?_ ?_
    · intro f6 q6
      refine r_iload_n (pc := 29) dX12_tables_29 rfl ?_
      refine r_sipush (pc := 30) (v := 3600) dX12_tables_30 (by decide) ?_
      refine r_icmp_ge (pc := 33) 49 dX12_tables_33 (by decide) (fun c33 => ?_) (fun c33 => ?_)
      · skip
        refine r_aload_n (pc := 49) dX12_tables_49 rfl ?_
        refine r_iconst (pc := 50) (v := 1) dX12_tables_50 (by decide) ?_
        refine r_mp (pc := 51) (k := 9) hm dX12_tables_51 fX12_70 (by decide) rfl rfl (fun _ _ => rfl) (fun _ _ => rfl) rfl ?_
        refine r_return (pc := 54) dX12_tables_54 rfl ⟨Nat.zero_le _, Nat.zero_le _⟩ (fun gE hg => ?_)
        refine ⟨rfl, upd s1 9 1, upA (upA A 5 f5) 6 f6, ⟨⟨q.1, q.2.1, q.2.2.1, Or.inr ⟨upd_s, fun c hc => q5 c hc, fun c d hc hd => Or.inl ?_⟩⟩, upd_s, fun k hk => ?_, fun i h5 h6 => ?_⟩, hg⟩
        · rw [upA_s, q6 _ (by omega)]; decide
        · rw [upd_n (by omega)]; exact q1 k (by omega)
        · rw [upA_n h6, upA_n h5]
      · skip
        exact absurd (by decide) c33
    · intro k hk ih f6 q6
      have hT := nI_T (n := k) (by omega)
      refine r_iload_n (pc := 29) dX12_tables_29 rfl ?_
      refine r_sipush (pc := 30) (v := 3600) dX12_tables_30 (by decide) ?_
      refine r_icmp_ge (pc := 33) 49 dX12_tables_33 (by decide) (fun c33 => ?_) (fun c33 => ?_)
      · skip
        exact absurd c33 (fun x => by have := fa_le.mp x; rw [hT, show (3600 : Int32).toInt = 3600 from rfl] at this; omega)
      · skip
        refine r_aload_n (pc := 36) dX12_tables_36 rfl ?_
        refine r_getf (pc := 37) (k := 8) dX12_tables_37 hX12 eX12 (by decide) fX12_28 (fun _ q => mo hm q) rfl ?_
        refine r_iload_n (pc := 40) dX12_tables_40 rfl ?_
        refine r_iconst (pc := 41) (v := (-1)) dX12_tables_41 (by decide) ?_
        refine r_ms (pc := 42) (i := 6) (j := k) hm dX12_tables_42 (by decide) (nI_T (by omega)) (show k < 3600 by omega) ?_
        refine r_iinc1 (pc := 43) dX12_tables_43 rfl (Nat.le_of_ble_eq_true rfl) rfl ?_
        dsimp only [lset]
        refine r_goto (pc := 46) 29 dX12_tables_46 (by decide) ?_
        rw [nI_1, upA_2, upA_s]
        exact ih _ (fun j hj => by
          by_cases e : j = k
          · rw [e, upd_s]
          · rw [upd_n e]; exact q6 j (by omega))
  have L1 : ∀ c, c ≤ kRo K * kSt K → ∀ (s1 f5 : Nat → Int32), sFr s s1 → (∀ j, j < c → f5 j = nI (drL lD (kHe K) (j / kSt K) (j % kSt K))) → AW (fun _ => True) (rmd 43 0 0) mX12_tables 0 0 2 [some (.ref m), some (.int (nI c))] [] (MP m h s1 (upA A 5 f5)) (fun v g => v = none ∧ ∃ s2 A2, (SE K lD lL s2 A2 ∧ s2 9 = 1 ∧ (∀ k, (k < 9 ∨ 17 < k) → s2 k = s k) ∧ ∀ i, i ≠ 5 → i ≠ 6 → A2 i = A i) ∧ MP m h s2 A2 g) := by
    refine up_loop ?_ ?_
    · intro s1 f5 q1 q5
      refine r_iload_n (pc := 2) dX12_tables_2 rfl ?_
      refine r_aload_n (pc := 3) dX12_tables_3 rfl ?_
      refine r_Vi (pc := 4) (μ' := mX12_cells) dX12_tables_4 nX12_66 iX12_cells vX12_cells kX12_cells rfl rfl (rr (by omega) rfl) rfl ⟨Nat.zero_le _, Nat.zero_le _⟩ (fun _ q_ => cvq q_ (ct_M_cells hm)) ?_
      rw [show upA A 5 f5 0 0 * upA A 5 f5 0 1 = nI (kRo K * kSt K) from hce]
      refine r_icmp_ge (pc := 7) 27 dX12_tables_7 (by decide) (fun c7 => ?_) (fun c7 => ?_)
      · skip
        refine r_iconst (pc := 27) (v := 0) dX12_tables_27 (by decide) ?_
        refine r_istore_n (pc := 28) dX12_tables_28 rfl (Nat.le_of_ble_eq_true rfl) rfl ?_
        dsimp only [lset]
        exact aw_P (fun g q => by rw [show upA (upA A 5 f5) 6 (A 6) = upA A 5 f5 from upA_id (A := upA A 5 f5) (i := 6)]; exact q) (L2 s1 f5 q1 q5 0 (Nat.zero_le _) (A 6) (fun j hj => absurd hj (Nat.not_lt_zero j)))
      · skip
        exact absurd (fa_le.mpr (Int.le_refl _)) c7
    · intro c hc ih s1 f5 q1 q5
      have hT := nI_T (n := c) (by omega)
      have hT2 := nI_T (n := kRo K * kSt K) (by omega)
      have hse : SE K lD lL s1 (upA A 5 f5) := ⟨q.1, q.2.1, q.2.2.1, Or.inl (by rw [q1 9 (by omega)]; exact h9)⟩
      refine r_iload_n (pc := 2) dX12_tables_2 rfl ?_
      refine r_aload_n (pc := 3) dX12_tables_3 rfl ?_
      refine r_Vi (pc := 4) (μ' := mX12_cells) dX12_tables_4 nX12_66 iX12_cells vX12_cells kX12_cells rfl rfl (rr (by omega) rfl) rfl ⟨Nat.zero_le _, Nat.zero_le _⟩ (fun _ q_ => cvq q_ (ct_M_cells hm)) ?_
      rw [show upA A 5 f5 0 0 * upA A 5 f5 0 1 = nI (kRo K * kSt K) from hce]
      refine r_icmp_ge (pc := 7) 27 dX12_tables_7 (by decide) (fun c7 => ?_) (fun c7 => ?_)
      · skip
        exact absurd c7 (fun x => by have := fa_le.mp x; omega)
      · skip
        refine r_aload_n (pc := 10) dX12_tables_10 rfl ?_
        refine r_getf (pc := 11) (k := 7) dX12_tables_11 hX12 eX12 (by decide) fX12_25 (fun _ q => mo hm q) rfl ?_
        refine r_iload_n (pc := 14) dX12_tables_14 rfl ?_
        refine r_aload_n (pc := 15) dX12_tables_15 rfl ?_
        refine r_iload_n (pc := 16) dX12_tables_16 rfl ?_
        refine r_Vi (pc := 17) (μ' := mX12_driesAt) dX12_tables_17 nX12_78 iX12_driesAt vX12_driesAt kX12_driesAt rfl rfl (rr (by omega) rfl) rfl ⟨Nat.zero_le _, Nat.zero_le _⟩ (fun _ q_ => cvq q_ (ct_M_driesAt hm ok hse hc)) ?_
        refine aw_ex fun s3 => aw_pr fun q3 => ?_
        refine r_ms (pc := 20) (i := 5) (j := c) hm dX12_tables_20 (by decide) (nI_T (by omega)) (show c < 36 by omega) ?_
        refine r_iinc1 (pc := 21) dX12_tables_21 rfl (Nat.le_of_ble_eq_true rfl) rfl ?_
        dsimp only [lset]
        refine r_goto (pc := 24) 2 dX12_tables_24 (by decide) ?_
        rw [nI_1, upA_2, upA_s]
        exact ih _ _ (q1.tr q3) (fun j hj => by
          by_cases e : j = c
          · rw [e, upd_s]
          · rw [upd_n e]; exact q5 j (by omega))
  refine aw_P (P' := MP m h s (upA A 5 (A 5))) (fun _ q => by rw [upA_id]; exact q) ?_
  refine r_iconst (pc := 0) (v := 0) dX12_tables_0 (by decide) ?_
  refine r_istore_n (pc := 1) dX12_tables_1 rfl (Nat.le_of_ble_eq_true rfl) rfl ?_
  dsimp only [lset]
  exact L1 0 (Nat.zero_le _) s (A 5) (sFr.rf s) (fun j hj => absurd hj (Nat.not_lt_zero j))
end Se
